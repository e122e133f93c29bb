/-! ===== p38: the law's helpers without loops ===== -/
theorem b1 {b : Bool} (h : b2i b = 1) : b = true := by cases b; exact absurd h (by decide); rfl
theorem bn1 {b : Bool} (h : ¬ b2i b = 1) : b = false := by cases b; rfl; exact absurd rfl h
theorem ask_b {x : Int32} {j : Nat} (hj : j < 16) (hx : sm x) : ((x >>> (nI j &&& 31)) &&& 1) = b2i (bt x j) := (b_askS hj hx).trans rfl
theorem bit_add (a : Nat) (b : Bool) : nI a + (if b = true then 1 else 0) = nI (a + (if b = true then 1 else 0)) := by
  cases b
  · exact Int32.add_zero _
  · exact nI_1 a
theorem m1_nI (a : Nat) : nI (a + 1) - 1 = nI a := by rw [← nI_1, Int32.add_sub_cancel]
theorem low_and (x : Int32) : ∃ k, k < 2 ^ 31 ∧ x &&& 2147483647 = nI k := pk_andE x 31 (by decide)
theorem and_15 (x : Int32) : ∃ k, k < 2 ^ 4 ∧ x &&& 15 = nI k := pk_andE x 4 (by decide)
theorem sw_out : ∀ z, z < 16 → (z = 0 ∨ 6 ≤ z) → ((nI z).toInt < 1 ∨ 5 < (nI z).toInt) := by decide +kernel
theorem mod_ne {a c n : Nat} (ha : a < n) (hc : c < n - 1) : a ≠ (a + 1 + c) % n := by
  rcases Nat.lt_or_ge (a + 1 + c) n with h | h
  · rw [Nat.mod_eq_of_lt h]; omega
  · rw [Nat.mod_eq_sub_mod h, Nat.mod_eq_of_lt (by omega)]; omega
theorem tie_yes2 {n i j : Nat} {th : Nat → Int32} (hn : n ≤ 16) (hi : i < n) (hj : j < n) (hne : i ≠ j) : bt (tieE th i j j) i = true := by
  rw [bt_tie (by omega) (by omega) hne]
  simp
section UNT
variable {n i j : Nat} {pr : Int32} {th : Nat → Int32}
theorem ct_unt (hT : TV n pr th) (hi : i < n) (hj : j < n) (hne : i ≠ j) (hb : bt (th i) j = true) : ct (th i) = ct (untE th i j i) + 1 := by
  have h := ct_tie (TVu hT (show i < 16 by have := hT.1; omega) hb) hi hj hne (unt_no hT hi hj hne)
  rw [tie_unt hT hi hj hne hb] at h
  exact h
theorem sumE_unt (hT : TV n pr th) (hi : i < n) (hj : j < n) (hne : i ≠ j) (hb : bt (th i) j = true) : sumE th = sumE (untE th i j) + 2 := by
  have h := sumE_tie (TVu hT (show i < 16 by have := hT.1; omega) hb) hi hj hne (unt_no hT hi hj hne)
  rw [tie_unt hT hi hj hne hb] at h
  exact h
theorem tri_unt (hT : TV n pr th) (hi : i < n) (hj : j < n) (hne : i ≠ j) (hb : bt (th i) j = true) : triN th n = triN (untE th i j) n + ct (th i &&& th j) := by
  have hU := TVu hT (show i < 16 by have := hT.1; omega) hb
  have h := tri_tie hU hi hj hne (unt_no hT hi hj hne)
  have h2 := ct_tie2 hU hi hj hne
  rw [tie_unt hT hi hj hne hb] at h h2
  rw [h, h2]
end UNT
theorem yok_L_low : yOK yL_low 2 := by unfold yOK; decide +kernel
theorem lw_L_low_k7 : Cond.constant RL 7 (2147483647) ∈ wsL_low := by decide +kernel
set_option maxRecDepth 20000 in
set_option maxHeartbeats 4000000 in
theorem c_L_low {l : Launch} {D : va_G} {ad : Nat → Nat} {cI cL : ClassId} (hfl : l.flags = flags0) (hok : adOK ad) (μ : Mem) (x : Int32) (m0 : Nat) (h0 : 0 < m0) (hm : m0 < 2 ^ 31) : CtI l D ad cI cL yL_low wsL_low (RM 0 0) [.int x, .int (nI m0)] μ (fun (r : Int32) (μ' : Mem) => (∃ j, j < m0 ∧ r = nI j) ∧ μ' = μ) := by
  refine ct_i (cc := cL_low) (maxL := 2) (own := RL) .int hfl hok (by decide) rfl rfl rfl (Nat.le_of_ble_eq_true rfl) (fun p e s m below meth c C hr => ?_)
  refine go_lv (lv' := [some (.int x), some (.int (nI m0))]) rfl ?_
  refine go_iload0 C (pc := 0) dL_low_0 ?_
  refine go_ldc C (pc := 1) lw_L_low_k7 dL_low_1 ?_
  refine go_iand C (pc := 3) dL_low_3 ?_
  refine go_iload1 C (pc := 4) dL_low_4 ?_
  refine go_irem C (pc := 5) (fun e => absurd (nI_inj3 hm (by decide) (e.trans (show (0 : Int32) = nI 0 from rfl))) (by omega)) dL_low_5 ?_
  obtain ⟨k, hk, ek⟩ := low_and x
  exact go_iret C hr dL_low_6 ⟨⟨k % m0, Nat.mod_lt _ h0, by rw [ek, pk_rem hk h0 hm]⟩, rfl⟩

theorem yok_L_bits : yOK yL_bits 1 := by unfold yOK; decide +kernel
set_option maxRecDepth 20000 in
set_option maxHeartbeats 4000000 in
theorem c_L_bits {l : Launch} {D : va_G} {ad : Nat → Nat} {cI cL : ClassId} (hfl : l.flags = flags0) (hok : adOK ad) (μ : Mem) (x : Int32) (hx : sm x) : CtI l D ad cI cL yL_bits wsL_bits (RM 0 0) [.int x] μ (fun (r : Int32) (μ' : Mem) => r = nI (ct x) ∧ μ' = μ) := by
  refine ct_i (cc := cL_bits) (maxL := 3) (own := RL) .int hfl hok (by decide) rfl rfl rfl (Nat.le_of_ble_eq_true rfl) (fun p e s m below meth c C hr => ?_)
  refine go_lv (lv' := [some (.int x), none, none]) rfl ?_
  have key : ∀ d i, 16 = i + d → Go p l e (headSpec wsL_bits (RM 0 0)).room s m ([.int x] : List Value).toArray below meth c 0 0 (MQ below (va_Qi (fun (r : Int32) (μ' : Mem) => r = nI (ct x) ∧ μ' = μ) (fun μ' t => PreW D ad cI cL μ' t) (AW ad)) ([.int x] : List Value).toArray s 0 0 (AW ad)) (AW ad) D ad cI cL 3 4 [some (.int x), some (.int (nI (fb_ct (bt x) i))), some (.int (nI i))] [] (μ) := by
    intro d
    induction d with
    | zero =>
      intro i hd
      refine go_iload2 C (pc := 4) dL_bits_4 ?_
      refine go_bipush C (pc := 5) (v := 16) (by decide) dL_bits_5 ?_
      refine go_icmp_ge C (pc := 7) (tgt := 24) dL_bits_7 (by decide) (fun h7 => ?_) (fun h7 => ?_)
      · refine go_iload1 C (pc := 24) dL_bits_24 ?_
        exact go_iret C hr dL_bits_25 ⟨by rw [show i = 16 by omega]; rfl, rfl⟩
      · exact absurd (show (16 : Int32) ≤ nI i from nI_le (a := 16) (by omega) (by omega)) h7
    | succ d ih =>
      intro i hd
      refine go_iload2 C (pc := 4) dL_bits_4 ?_
      refine go_bipush C (pc := 5) (v := 16) (by decide) dL_bits_5 ?_
      refine go_icmp_ge C (pc := 7) (tgt := 24) dL_bits_7 (by decide) (fun h7 => ?_) (fun h7 => ?_)
      · exact absurd h7 (show ¬ (16 : Int32) ≤ nI i from nI_ge (b := 16) (by omega) (by decide))
      · refine go_iload1 C (pc := 10) dL_bits_10 ?_
        refine go_iload0 C (pc := 11) dL_bits_11 ?_
        refine go_iload2 C (pc := 12) dL_bits_12 ?_
        refine go_ishr C (pc := 13) dL_bits_13 ?_
        refine go_iconst C (pc := 14) (v := 1) (by decide) dL_bits_14 ?_
        refine go_iand C (pc := 15) dL_bits_15 ?_
        refine go_iadd C (pc := 16) dL_bits_16 ?_
        refine go_top (y := nI (fb_ct (bt x) (i + 1))) (by rw [b_askS (by omega) hx, fb_ct_succ, bit_add]) ?_
        refine go_istore1 C (pc := 17) dL_bits_17 ?_
        refine go_iinc2 C (pc := 18) (v := 1) dL_bits_18 (by decide) ?_
        refine go_goto C (pc := 21) (tgt := 4) dL_bits_21 (by decide) ?_
        exact go_lv (by rw [nI_1]) (ih (i + 1) (by omega))
  refine go_iconst C (pc := 0) (v := 0) (by decide) dL_bits_0 ?_
  refine go_istore1 C (pc := 1) dL_bits_1 ?_
  refine go_iconst C (pc := 2) (v := 0) (by decide) dL_bits_2 ?_
  refine go_istore2 C (pc := 3) dL_bits_3 ?_
  exact go_lv rfl (key 16 0 rfl)

theorem yok_L_isBound : yOK yL_isBound 3 := by unfold yOK; decide +kernel
set_option maxRecDepth 20000 in
set_option maxHeartbeats 4000000 in
theorem c_L_isBound {l : Launch} {D : va_G} {ad : Nat → Nat} {cI cL : ClassId} (hfl : l.flags = flags0) (hok : adOK ad) {μ : Mem} {n : Nat} {pr : Int32} {th : Nat → Int32} (H : Bs n pr th μ) (a b : Nat) (ha : a < n) (hb : b < n) (hne : a ≠ b) (h0 : bt (th a) b = false) : CtI l D ad cI cL yL_isBound wsL_isBound (RM 9 155) [.ref (ad 0), .int (nI a), .int (nI b)] μ (fun (r : Int32) (μ' : Mem) => r = 1 ∧ Bs n pr (tieE th a b) μ') := by
  refine ct_i (cc := cL_isBound) (maxL := 7) (own := RL) .boolean hfl hok (by decide) rfl rfl rfl (Nat.le_of_ble_eq_true rfl) (fun p e s m below meth c C hr => ?_)
  refine go_lv (lv' := [some (.ref (ad 0)), some (.int (nI a)), some (.int (nI b)), none, none, none, none]) rfl ?_
  have hn := H.T.1
  refine go_aload0 C (pc := 0) dL_isBound_0 ?_
  refine go_ciV0 C (pc := 1) obj_0 (q_thornCount C.fl C.ok H) gL_isBound_X7_thornCount rfl rfl yok_X7_thornCount ⟨rfl, rfl⟩ ⟨Nat.le_of_ble_eq_true rfl, Nat.le_of_ble_eq_true rfl⟩ (Nat.le_of_ble_eq_true rfl) ⟨Nat.zero_le _, Nat.zero_le _⟩ dL_isBound_1 (fun r1 μ1 hc1 => ?_)
  obtain ⟨rfl, H1⟩ := hc1
  refine go_istore3 C (pc := 4) dL_isBound_4 ?_
  refine go_aload0 C (pc := 5) dL_isBound_5 ?_
  refine go_ciV0 C (pc := 6) obj_0 (q_triangles C.fl C.ok H1) gL_isBound_X7_triangles rfl rfl yok_X7_triangles ⟨rfl, rfl⟩ ⟨Nat.le_of_ble_eq_true rfl, Nat.le_of_ble_eq_true rfl⟩ (Nat.le_of_ble_eq_true rfl) ⟨Nat.zero_le _, Nat.zero_le _⟩ dL_isBound_6 (fun r2 μ2 hc2 => ?_)
  obtain ⟨rfl, H2⟩ := hc2
  refine go_istore4 C (pc := 9) dL_isBound_9 ?_
  refine go_aload0 C (pc := 11) dL_isBound_11 ?_
  refine go_iload1 C (pc := 12) dL_isBound_12 ?_
  refine go_ciV1 C (pc := 13) obj_0 (q_neighbors C.fl C.ok H2 _ ha) gL_isBound_X7_neighbors rfl rfl yok_X7_neighbors ⟨rfl, rfl⟩ ⟨Nat.le_of_ble_eq_true rfl, Nat.le_of_ble_eq_true rfl⟩ (Nat.le_of_ble_eq_true rfl) ⟨Nat.zero_le _, Nat.zero_le _⟩ dL_isBound_13 (fun r3 μ3 hc3 => ?_)
  obtain ⟨rfl, H3⟩ := hc3
  refine go_aload0 C (pc := 16) dL_isBound_16 ?_
  refine go_iload2 C (pc := 17) dL_isBound_17 ?_
  refine go_ciV1 C (pc := 18) obj_0 (q_neighbors C.fl C.ok H3 _ hb) gL_isBound_X7_neighbors rfl rfl yok_X7_neighbors ⟨rfl, rfl⟩ ⟨Nat.le_of_ble_eq_true rfl, Nat.le_of_ble_eq_true rfl⟩ (Nat.le_of_ble_eq_true rfl) ⟨Nat.zero_le _, Nat.zero_le _⟩ dL_isBound_18 (fun r4 μ4 hc4 => ?_)
  obtain ⟨rfl, H4⟩ := hc4
  refine go_iand C (pc := 21) dL_isBound_21 ?_
  refine go_ciS1 C (pc := 22) (c_L_bits C.fl C.ok _ _ (sm_and _ (sm_row H4.T (by omega)))) gL_isBound_L_bits rfl yok_L_bits ⟨rfl, rfl⟩ ⟨Nat.le_of_ble_eq_true rfl, Nat.le_of_ble_eq_true rfl⟩ (Nat.le_of_ble_eq_true rfl) ⟨Nat.zero_le _, Nat.zero_le _⟩ dL_isBound_22 (fun r5 μ5 hc5 => ?_)
  obtain ⟨rfl, hm5⟩ := hc5
  replace hm5 := hm5.symm
  subst hm5
  refine go_istore5 C (pc := 25) dL_isBound_25 ?_
  refine go_aload0 C (pc := 27) dL_isBound_27 ?_
  refine go_iload1 C (pc := 28) dL_isBound_28 ?_
  refine go_ciV1 C (pc := 29) obj_0 (q_neighbors C.fl C.ok H4 _ ha) gL_isBound_X7_neighbors rfl rfl yok_X7_neighbors ⟨rfl, rfl⟩ ⟨Nat.le_of_ble_eq_true rfl, Nat.le_of_ble_eq_true rfl⟩ (Nat.le_of_ble_eq_true rfl) ⟨Nat.zero_le _, Nat.zero_le _⟩ dL_isBound_29 (fun r6 μ6 hc6 => ?_)
  obtain ⟨rfl, H6⟩ := hc6
  refine go_ciS1 C (pc := 32) (c_L_bits C.fl C.ok _ _ (sm_row H6.T (by omega))) gL_isBound_L_bits rfl yok_L_bits ⟨rfl, rfl⟩ ⟨Nat.le_of_ble_eq_true rfl, Nat.le_of_ble_eq_true rfl⟩ (Nat.le_of_ble_eq_true rfl) ⟨Nat.zero_le _, Nat.zero_le _⟩ dL_isBound_32 (fun r7 μ7 hc7 => ?_)
  obtain ⟨rfl, hm7⟩ := hc7
  replace hm7 := hm7.symm
  subst hm7
  refine go_istore6 C (pc := 35) dL_isBound_35 ?_
  refine go_aload0 C (pc := 37) dL_isBound_37 ?_
  refine go_iload1 C (pc := 38) dL_isBound_38 ?_
  refine go_iload2 C (pc := 39) dL_isBound_39 ?_
  refine go_ciV2 C (pc := 40) obj_0 (u_bind C.fl C.ok H6 _ _ ha hb hne h0) gL_isBound_X7_bind rfl rfl yok_X7_bind ⟨rfl, rfl⟩ ⟨Nat.le_of_ble_eq_true rfl, Nat.le_of_ble_eq_true rfl⟩ (Nat.le_of_ble_eq_true rfl) ⟨Nat.zero_le _, Nat.zero_le _⟩ dL_isBound_40 (fun r8 μ8 hc8 => ?_)
  obtain ⟨rfl, H8⟩ := hc8
  refine go_iload6 C (pc := 43) dL_isBound_43 ?_
  refine go_iconst C (pc := 45) (v := 1) (by decide) dL_isBound_45 ?_
  refine go_iadd C (pc := 46) dL_isBound_46 ?_
  refine go_icmp_ne C (pc := 47) (tgt := 98) dL_isBound_47 (by decide) (fun h47 => ?_) (fun h47 => ?_)
  · exact absurd (by rw [ct_tie H.T ha hb hne h0, nI_1]) h47
  · refine go_aload0 C (pc := 50) dL_isBound_50 ?_
    refine go_ciV0 C (pc := 51) obj_0 (q_thornCount C.fl C.ok H8) gL_isBound_X7_thornCount rfl rfl yok_X7_thornCount ⟨rfl, rfl⟩ ⟨Nat.le_of_ble_eq_true rfl, Nat.le_of_ble_eq_true rfl⟩ (Nat.le_of_ble_eq_true rfl) ⟨Nat.zero_le _, Nat.zero_le _⟩ dL_isBound_51 (fun r10 μ10 hc10 => ?_)
    obtain ⟨rfl, H10⟩ := hc10
    refine go_iload3 C (pc := 54) dL_isBound_54 ?_
    refine go_iconst C (pc := 55) (v := 1) (by decide) dL_isBound_55 ?_
    refine go_iadd C (pc := 56) dL_isBound_56 ?_
    refine go_icmp_ne C (pc := 57) (tgt := 98) dL_isBound_57 (by decide) (fun h57 => ?_) (fun h57 => ?_)
    · exact absurd (by rw [sumE_tie H.T ha hb hne h0, nI_1, show (sumE th + 2) / 2 = sumE th / 2 + 1 by omega]) h57
    · refine go_aload0 C (pc := 60) dL_isBound_60 ?_
      refine go_ciV0 C (pc := 61) obj_0 (q_triangles C.fl C.ok H10) gL_isBound_X7_triangles rfl rfl yok_X7_triangles ⟨rfl, rfl⟩ ⟨Nat.le_of_ble_eq_true rfl, Nat.le_of_ble_eq_true rfl⟩ (Nat.le_of_ble_eq_true rfl) ⟨Nat.zero_le _, Nat.zero_le _⟩ dL_isBound_61 (fun r12 μ12 hc12 => ?_)
      obtain ⟨rfl, H12⟩ := hc12
      refine go_iload4 C (pc := 64) dL_isBound_64 ?_
      refine go_iload5 C (pc := 66) dL_isBound_66 ?_
      refine go_iadd C (pc := 68) dL_isBound_68 ?_
      refine go_icmp_ne C (pc := 69) (tgt := 98) dL_isBound_69 (by decide) (fun h69 => ?_) (fun h69 => ?_)
      · exact absurd (by rw [tri_tie H.T ha hb hne h0, nI_add]) h69
      · refine go_aload0 C (pc := 72) dL_isBound_72 ?_
        refine go_iload1 C (pc := 73) dL_isBound_73 ?_
        refine go_iload2 C (pc := 74) dL_isBound_74 ?_
        refine go_ciV2 C (pc := 75) obj_0 (q_support C.fl C.ok H12 _ _ ha hb (tie_yes hn ha hb hne)) gL_isBound_X7_support rfl rfl yok_X7_support ⟨rfl, rfl⟩ ⟨Nat.le_of_ble_eq_true rfl, Nat.le_of_ble_eq_true rfl⟩ (Nat.le_of_ble_eq_true rfl) ⟨Nat.zero_le _, Nat.zero_le _⟩ dL_isBound_75 (fun r14 μ14 hc14 => ?_)
        obtain ⟨rfl, H14⟩ := hc14
        refine go_iload5 C (pc := 78) dL_isBound_78 ?_
        refine go_icmp_ne C (pc := 80) (tgt := 98) dL_isBound_80 (by decide) (fun h80 => ?_) (fun h80 => ?_)
        · exact absurd (by rw [ct_tie2 H.T ha hb hne]) h80
        · refine go_aload0 C (pc := 83) dL_isBound_83 ?_
          refine go_iload2 C (pc := 84) dL_isBound_84 ?_
          refine go_iload1 C (pc := 85) dL_isBound_85 ?_
          refine go_ciV2 C (pc := 86) obj_0 (q_support C.fl C.ok H14 _ _ hb ha (tie_yes2 hn ha hb hne)) gL_isBound_X7_support rfl rfl yok_X7_support ⟨rfl, rfl⟩ ⟨Nat.le_of_ble_eq_true rfl, Nat.le_of_ble_eq_true rfl⟩ (Nat.le_of_ble_eq_true rfl) ⟨Nat.zero_le _, Nat.zero_le _⟩ dL_isBound_86 (fun r16 μ16 hc16 => ?_)
          obtain ⟨rfl, H16⟩ := hc16
          refine go_iload5 C (pc := 89) dL_isBound_89 ?_
          refine go_icmp_ne C (pc := 91) (tgt := 98) dL_isBound_91 (by decide) (fun h91 => ?_) (fun h91 => ?_)
          · exact absurd (by rw [Int32.and_comm, ct_tie2 H.T ha hb hne]) h91
          · refine go_iconst C (pc := 94) (v := 1) (by decide) dL_isBound_94 ?_
            refine go_goto C (pc := 95) (tgt := 99) dL_isBound_95 (by decide) ?_
            exact go_zret C hr dL_isBound_99 (Or.inr rfl) ⟨rfl, H16⟩

theorem yok_L_isCut : yOK yL_isCut 3 := by unfold yOK; decide +kernel
set_option maxRecDepth 20000 in
set_option maxHeartbeats 4000000 in
theorem c_L_isCut {l : Launch} {D : va_G} {ad : Nat → Nat} {cI cL : ClassId} (hfl : l.flags = flags0) (hok : adOK ad) {μ : Mem} {n : Nat} {pr : Int32} {th : Nat → Int32} (H : Bs n pr th μ) (a b : Nat) (ha : a < n) (hb : b < n) (hne : a ≠ b) (h0 : bt (th a) b = true) : CtI l D ad cI cL yL_isCut wsL_isCut (RM 9 155) [.ref (ad 0), .int (nI a), .int (nI b)] μ (fun (r : Int32) (μ' : Mem) => r = 1 ∧ Bs n pr (untE th a b) μ') := by
  refine ct_i (cc := cL_isCut) (maxL := 7) (own := RL) .boolean hfl hok (by decide) rfl rfl rfl (Nat.le_of_ble_eq_true rfl) (fun p e s m below meth c C hr => ?_)
  refine go_lv (lv' := [some (.ref (ad 0)), some (.int (nI a)), some (.int (nI b)), none, none, none, none]) rfl ?_
  have hn := H.T.1
  refine go_aload0 C (pc := 0) dL_isCut_0 ?_
  refine go_ciV0 C (pc := 1) obj_0 (q_thornCount C.fl C.ok H) gL_isCut_X7_thornCount rfl rfl yok_X7_thornCount ⟨rfl, rfl⟩ ⟨Nat.le_of_ble_eq_true rfl, Nat.le_of_ble_eq_true rfl⟩ (Nat.le_of_ble_eq_true rfl) ⟨Nat.zero_le _, Nat.zero_le _⟩ dL_isCut_1 (fun r1 μ1 hc1 => ?_)
  obtain ⟨rfl, H1⟩ := hc1
  refine go_istore3 C (pc := 4) dL_isCut_4 ?_
  refine go_aload0 C (pc := 5) dL_isCut_5 ?_
  refine go_ciV0 C (pc := 6) obj_0 (q_triangles C.fl C.ok H1) gL_isCut_X7_triangles rfl rfl yok_X7_triangles ⟨rfl, rfl⟩ ⟨Nat.le_of_ble_eq_true rfl, Nat.le_of_ble_eq_true rfl⟩ (Nat.le_of_ble_eq_true rfl) ⟨Nat.zero_le _, Nat.zero_le _⟩ dL_isCut_6 (fun r2 μ2 hc2 => ?_)
  obtain ⟨rfl, H2⟩ := hc2
  refine go_istore4 C (pc := 9) dL_isCut_9 ?_
  refine go_aload0 C (pc := 11) dL_isCut_11 ?_
  refine go_iload1 C (pc := 12) dL_isCut_12 ?_
  refine go_iload2 C (pc := 13) dL_isCut_13 ?_
  refine go_ciV2 C (pc := 14) obj_0 (q_support C.fl C.ok H2 _ _ ha hb h0) gL_isCut_X7_support rfl rfl yok_X7_support ⟨rfl, rfl⟩ ⟨Nat.le_of_ble_eq_true rfl, Nat.le_of_ble_eq_true rfl⟩ (Nat.le_of_ble_eq_true rfl) ⟨Nat.zero_le _, Nat.zero_le _⟩ dL_isCut_14 (fun r3 μ3 hc3 => ?_)
  obtain ⟨rfl, H3⟩ := hc3
  refine go_istore5 C (pc := 17) dL_isCut_17 ?_
  refine go_aload0 C (pc := 19) dL_isCut_19 ?_
  refine go_iload1 C (pc := 20) dL_isCut_20 ?_
  refine go_ciV1 C (pc := 21) obj_0 (q_neighbors C.fl C.ok H3 _ ha) gL_isCut_X7_neighbors rfl rfl yok_X7_neighbors ⟨rfl, rfl⟩ ⟨Nat.le_of_ble_eq_true rfl, Nat.le_of_ble_eq_true rfl⟩ (Nat.le_of_ble_eq_true rfl) ⟨Nat.zero_le _, Nat.zero_le _⟩ dL_isCut_21 (fun r4 μ4 hc4 => ?_)
  obtain ⟨rfl, H4⟩ := hc4
  refine go_ciS1 C (pc := 24) (c_L_bits C.fl C.ok _ _ (sm_row H4.T (by omega))) gL_isCut_L_bits rfl yok_L_bits ⟨rfl, rfl⟩ ⟨Nat.le_of_ble_eq_true rfl, Nat.le_of_ble_eq_true rfl⟩ (Nat.le_of_ble_eq_true rfl) ⟨Nat.zero_le _, Nat.zero_le _⟩ dL_isCut_24 (fun r5 μ5 hc5 => ?_)
  obtain ⟨rfl, hm5⟩ := hc5
  replace hm5 := hm5.symm
  subst hm5
  refine go_istore6 C (pc := 27) dL_isCut_27 ?_
  refine go_aload0 C (pc := 29) dL_isCut_29 ?_
  refine go_iload1 C (pc := 30) dL_isCut_30 ?_
  refine go_iload2 C (pc := 31) dL_isCut_31 ?_
  refine go_ciV2 C (pc := 32) obj_0 (u_cut C.fl C.ok H4 _ _ ha hb hne h0) gL_isCut_X7_cut rfl rfl yok_X7_cut ⟨rfl, rfl⟩ ⟨Nat.le_of_ble_eq_true rfl, Nat.le_of_ble_eq_true rfl⟩ (Nat.le_of_ble_eq_true rfl) ⟨Nat.zero_le _, Nat.zero_le _⟩ dL_isCut_32 (fun r6 μ6 hc6 => ?_)
  obtain ⟨rfl, H6⟩ := hc6
  refine go_iload6 C (pc := 35) dL_isCut_35 ?_
  refine go_iconst C (pc := 37) (v := 1) (by decide) dL_isCut_37 ?_
  refine go_isub C (pc := 38) dL_isCut_38 ?_
  refine go_icmp_ne C (pc := 39) (tgt := 68) dL_isCut_39 (by decide) (fun h39 => ?_) (fun h39 => ?_)
  · exact absurd (by rw [ct_unt H.T ha hb hne h0, m1_nI]) h39
  · refine go_aload0 C (pc := 42) dL_isCut_42 ?_
    refine go_ciV0 C (pc := 43) obj_0 (q_thornCount C.fl C.ok H6) gL_isCut_X7_thornCount rfl rfl yok_X7_thornCount ⟨rfl, rfl⟩ ⟨Nat.le_of_ble_eq_true rfl, Nat.le_of_ble_eq_true rfl⟩ (Nat.le_of_ble_eq_true rfl) ⟨Nat.zero_le _, Nat.zero_le _⟩ dL_isCut_43 (fun r8 μ8 hc8 => ?_)
    obtain ⟨rfl, H8⟩ := hc8
    refine go_iload3 C (pc := 46) dL_isCut_46 ?_
    refine go_iconst C (pc := 47) (v := 1) (by decide) dL_isCut_47 ?_
    refine go_isub C (pc := 48) dL_isCut_48 ?_
    refine go_icmp_ne C (pc := 49) (tgt := 68) dL_isCut_49 (by decide) (fun h49 => ?_) (fun h49 => ?_)
    · exact absurd (by rw [sumE_unt H.T ha hb hne h0, show (sumE (untE th a b) + 2) / 2 = sumE (untE th a b) / 2 + 1 by omega, m1_nI]) h49
    · refine go_aload0 C (pc := 52) dL_isCut_52 ?_
      refine go_ciV0 C (pc := 53) obj_0 (q_triangles C.fl C.ok H8) gL_isCut_X7_triangles rfl rfl yok_X7_triangles ⟨rfl, rfl⟩ ⟨Nat.le_of_ble_eq_true rfl, Nat.le_of_ble_eq_true rfl⟩ (Nat.le_of_ble_eq_true rfl) ⟨Nat.zero_le _, Nat.zero_le _⟩ dL_isCut_53 (fun r10 μ10 hc10 => ?_)
      obtain ⟨rfl, H10⟩ := hc10
      refine go_iload4 C (pc := 56) dL_isCut_56 ?_
      refine go_iload5 C (pc := 58) dL_isCut_58 ?_
      refine go_isub C (pc := 60) dL_isCut_60 ?_
      refine go_icmp_ne C (pc := 61) (tgt := 68) dL_isCut_61 (by decide) (fun h61 => ?_) (fun h61 => ?_)
      · exact absurd (by rw [tri_unt H.T ha hb hne h0, pk_sub (by omega), Nat.add_sub_cancel]) h61
      · refine go_iconst C (pc := 64) (v := 1) (by decide) dL_isCut_64 ?_
        refine go_goto C (pc := 65) (tgt := 69) dL_isCut_65 (by decide) ?_
        exact go_zret C hr dL_isCut_69 (Or.inr rfl) ⟨rfl, H10⟩

theorem yok_L_isUprooted : yOK yL_isUprooted 2 := by unfold yOK; decide +kernel
set_option maxRecDepth 20000 in
set_option maxHeartbeats 4000000 in
theorem c_L_isUprooted {l : Launch} {D : va_G} {ad : Nat → Nat} {cI cL : ClassId} (hfl : l.flags = flags0) (hok : adOK ad) {μ : Mem} {n : Nat} {pr : Int32} {th : Nat → Int32} (H : Bs n pr th μ) (a : Nat) (ha : a < n) (h6 : 6 ≤ n) : CtI l D ad cI cL yL_isUprooted wsL_isUprooted (RM 8 133) [.ref (ad 0), .int (nI a)] μ (fun (r : Int32) (μ' : Mem) => r = 1 ∧ Bs (n - 1) (closeG pr (nI a)) (pullT th a) μ') := by
  refine ct_i (cc := cL_isUprooted) (maxL := 8) (own := RL) .boolean hfl hok (by decide) rfl rfl rfl (Nat.le_of_ble_eq_true rfl) (fun p e s m below meth c C hr => ?_)
  refine go_lv (lv' := [some (.ref (ad 0)), some (.int (nI a)), none, none, none, none, none, none]) rfl ?_
  have hn := H.T.1
  have e1 : nI n - 1 = nI (n - 1) := by rw [show (1 : Int32) = nI 1 from rfl, pk_sub (show 1 ≤ n by omega)]
  have e2 : nI n - 2 = nI (n - 2) := by rw [show (2 : Int32) = nI 2 from rfl, pk_sub (show 2 ≤ n by omega)]
  refine go_aload0 C (pc := 0) dL_isUprooted_0 ?_
  refine go_ciV0 C (pc := 1) obj_0 (q_plantCount C.fl C.ok H) gL_isUprooted_X7_plantCount rfl rfl yok_X7_plantCount ⟨rfl, rfl⟩ ⟨Nat.le_of_ble_eq_true rfl, Nat.le_of_ble_eq_true rfl⟩ (Nat.le_of_ble_eq_true rfl) ⟨Nat.zero_le _, Nat.zero_le _⟩ dL_isUprooted_1 (fun r1 μ1 hc1 => ?_)
  obtain ⟨rfl, H1⟩ := hc1
  refine go_istore2 C (pc := 4) dL_isUprooted_4 ?_
  refine go_aload0 C (pc := 5) dL_isUprooted_5 ?_
  refine go_ciV0 C (pc := 6) obj_0 (q_thornCount C.fl C.ok H1) gL_isUprooted_X7_thornCount rfl rfl yok_X7_thornCount ⟨rfl, rfl⟩ ⟨Nat.le_of_ble_eq_true rfl, Nat.le_of_ble_eq_true rfl⟩ (Nat.le_of_ble_eq_true rfl) ⟨Nat.zero_le _, Nat.zero_le _⟩ dL_isUprooted_6 (fun r2 μ2 hc2 => ?_)
  obtain ⟨rfl, H2⟩ := hc2
  refine go_istore3 C (pc := 9) dL_isUprooted_9 ?_
  refine go_aload0 C (pc := 10) dL_isUprooted_10 ?_
  refine go_iload1 C (pc := 11) dL_isUprooted_11 ?_
  refine go_ciV1 C (pc := 12) obj_0 (q_neighbors C.fl C.ok H2 _ ha) gL_isUprooted_X7_neighbors rfl rfl yok_X7_neighbors ⟨rfl, rfl⟩ ⟨Nat.le_of_ble_eq_true rfl, Nat.le_of_ble_eq_true rfl⟩ (Nat.le_of_ble_eq_true rfl) ⟨Nat.zero_le _, Nat.zero_le _⟩ dL_isUprooted_12 (fun r3 μ3 hc3 => ?_)
  obtain ⟨rfl, H3⟩ := hc3
  refine go_ciS1 C (pc := 15) (c_L_bits C.fl C.ok _ _ (sm_row H3.T (by omega))) gL_isUprooted_L_bits rfl yok_L_bits ⟨rfl, rfl⟩ ⟨Nat.le_of_ble_eq_true rfl, Nat.le_of_ble_eq_true rfl⟩ (Nat.le_of_ble_eq_true rfl) ⟨Nat.zero_le _, Nat.zero_le _⟩ dL_isUprooted_15 (fun r4 μ4 hc4 => ?_)
  obtain ⟨rfl, hm4⟩ := hc4
  replace hm4 := hm4.symm
  subst hm4
  refine go_istore4 C (pc := 18) dL_isUprooted_18 ?_
  refine go_aload0 C (pc := 20) dL_isUprooted_20 ?_
  refine go_iload2 C (pc := 21) dL_isUprooted_21 ?_
  refine go_iconst C (pc := 22) (v := 1) (by decide) dL_isUprooted_22 ?_
  refine go_isub C (pc := 23) dL_isUprooted_23 ?_
  refine go_top (y := nI (n - 1)) e1 ?_
  refine go_ciV1 C (pc := 24) obj_0 (q_neighbors C.fl C.ok H3 _ (show n - 1 < n by omega)) gL_isUprooted_X7_neighbors rfl rfl yok_X7_neighbors ⟨rfl, rfl⟩ ⟨Nat.le_of_ble_eq_true rfl, Nat.le_of_ble_eq_true rfl⟩ (Nat.le_of_ble_eq_true rfl) ⟨Nat.zero_le _, Nat.zero_le _⟩ dL_isUprooted_24 (fun r5 μ5 hc5 => ?_)
  obtain ⟨rfl, H5⟩ := hc5
  refine go_istore5 C (pc := 27) dL_isUprooted_27 ?_
  refine go_aload0 C (pc := 29) dL_isUprooted_29 ?_
  refine go_iload2 C (pc := 30) dL_isUprooted_30 ?_
  refine go_iconst C (pc := 31) (v := 1) (by decide) dL_isUprooted_31 ?_
  refine go_isub C (pc := 32) dL_isUprooted_32 ?_
  refine go_top (y := nI (n - 1)) e1 ?_
  refine go_ciV1 C (pc := 33) obj_0 (q_isPropped C.fl C.ok H5 _ (show n - 1 < n by omega)) gL_isUprooted_X7_isPropped rfl rfl yok_X7_isPropped ⟨rfl, rfl⟩ ⟨Nat.le_of_ble_eq_true rfl, Nat.le_of_ble_eq_true rfl⟩ (Nat.le_of_ble_eq_true rfl) ⟨Nat.zero_le _, Nat.zero_le _⟩ dL_isUprooted_33 (fun r6 μ6 hc6 => ?_)
  obtain ⟨rfl, H6⟩ := hc6
  refine go_istore6 C (pc := 36) dL_isUprooted_36 ?_
  refine go_iload5 C (pc := 38) dL_isUprooted_38 ?_
  refine go_iconst C (pc := 40) (v := 1) (by decide) dL_isUprooted_40 ?_
  refine go_iload1 C (pc := 41) dL_isUprooted_41 ?_
  refine go_ishl C (pc := 42) dL_isUprooted_42 ?_
  refine go_iconst C (pc := 43) (v := 1) (by decide) dL_isUprooted_43 ?_
  refine go_isub C (pc := 44) dL_isUprooted_44 ?_
  refine go_iand C (pc := 45) dL_isUprooted_45 ?_
  refine go_iload5 C (pc := 46) dL_isUprooted_46 ?_
  refine go_iconst C (pc := 48) (v := 1) (by decide) dL_isUprooted_48 ?_
  refine go_ishr C (pc := 49) dL_isUprooted_49 ?_
  refine go_iconst C (pc := 50) (v := 1) (by decide) dL_isUprooted_50 ?_
  refine go_iload1 C (pc := 51) dL_isUprooted_51 ?_
  refine go_ishl C (pc := 52) dL_isUprooted_52 ?_
  refine go_iconst C (pc := 53) (v := 1) (by decide) dL_isUprooted_53 ?_
  refine go_isub C (pc := 54) dL_isUprooted_54 ?_
  refine go_iconst C (pc := 55) (v := -1) (by decide) dL_isUprooted_55 ?_
  refine go_ixor C (pc := 56) dL_isUprooted_56 ?_
  refine go_iand C (pc := 57) dL_isUprooted_57 ?_
  refine go_ior C (pc := 58) dL_isUprooted_58 ?_
  refine go_istore7 C (pc := 59) dL_isUprooted_59 ?_
  refine go_aload0 C (pc := 61) dL_isUprooted_61 ?_
  refine go_iload1 C (pc := 62) dL_isUprooted_62 ?_
  refine go_ciV1 C (pc := 63) obj_0 (u_uproot C.fl C.ok H6 _ ha) gL_isUprooted_X7_uproot rfl rfl yok_X7_uproot ⟨rfl, rfl⟩ ⟨Nat.le_of_ble_eq_true rfl, Nat.le_of_ble_eq_true rfl⟩ (Nat.le_of_ble_eq_true rfl) ⟨Nat.zero_le _, Nat.zero_le _⟩ dL_isUprooted_63 (fun r7 μ7 hc7 => ?_)
  obtain ⟨rfl, H7⟩ := hc7
  refine go_iload4 C (pc := 66) dL_isUprooted_66 ?_
  refine go_icmp_ne C (pc := 68) (tgt := 127) dL_isUprooted_68 (by decide) (fun h68 => ?_) (fun h68 => ?_)
  · exact absurd (rfl) h68
  · refine go_aload0 C (pc := 71) dL_isUprooted_71 ?_
    refine go_ciV0 C (pc := 72) obj_0 (q_plantCount C.fl C.ok H7) gL_isUprooted_X7_plantCount rfl rfl yok_X7_plantCount ⟨rfl, rfl⟩ ⟨Nat.le_of_ble_eq_true rfl, Nat.le_of_ble_eq_true rfl⟩ (Nat.le_of_ble_eq_true rfl) ⟨Nat.zero_le _, Nat.zero_le _⟩ dL_isUprooted_72 (fun r9 μ9 hc9 => ?_)
    obtain ⟨rfl, H9⟩ := hc9
    refine go_iload2 C (pc := 75) dL_isUprooted_75 ?_
    refine go_iconst C (pc := 76) (v := 1) (by decide) dL_isUprooted_76 ?_
    refine go_isub C (pc := 77) dL_isUprooted_77 ?_
    refine go_top (y := nI (n - 1)) e1 ?_
    refine go_icmp_ne C (pc := 78) (tgt := 127) dL_isUprooted_78 (by decide) (fun h78 => ?_) (fun h78 => ?_)
    · exact absurd (rfl) h78
    · refine go_aload0 C (pc := 81) dL_isUprooted_81 ?_
      refine go_ciV0 C (pc := 82) obj_0 (q_thornCount C.fl C.ok H9) gL_isUprooted_X7_thornCount rfl rfl yok_X7_thornCount ⟨rfl, rfl⟩ ⟨Nat.le_of_ble_eq_true rfl, Nat.le_of_ble_eq_true rfl⟩ (Nat.le_of_ble_eq_true rfl) ⟨Nat.zero_le _, Nat.zero_le _⟩ dL_isUprooted_82 (fun r11 μ11 hc11 => ?_)
      obtain ⟨rfl, H11⟩ := hc11
      refine go_iload3 C (pc := 85) dL_isUprooted_85 ?_
      refine go_iload4 C (pc := 86) dL_isUprooted_86 ?_
      refine go_isub C (pc := 88) dL_isUprooted_88 ?_
      refine go_icmp_ne C (pc := 89) (tgt := 127) dL_isUprooted_89 (by decide) (fun h89 => ?_) (fun h89 => ?_)
      · exact absurd (by have h9 := sumE_pull H.T ha; rw [pk_sub (by omega), show sumE (pullT th a) / 2 = sumE th / 2 - ct (th a) by omega]) h89
      · refine go_iload1 C (pc := 92) dL_isUprooted_92 ?_
        refine go_iload2 C (pc := 93) dL_isUprooted_93 ?_
        refine go_iconst C (pc := 94) (v := 1) (by decide) dL_isUprooted_94 ?_
        refine go_isub C (pc := 95) dL_isUprooted_95 ?_
        refine go_top (y := nI (n - 1)) e1 ?_
        refine go_icmp_eq C (pc := 96) (tgt := 123) dL_isUprooted_96 (by decide) (fun h96 => ?_) (fun h96 => ?_)
        · refine go_iconst C (pc := 123) (v := 1) (by decide) dL_isUprooted_123 ?_
          refine go_goto C (pc := 124) (tgt := 128) dL_isUprooted_124 (by decide) ?_
          exact go_zret C hr dL_isUprooted_128 (Or.inr rfl) ⟨rfl, H11⟩
        · have hl : a + 1 < n := by
            have hz : a ≠ n - 1 := fun e => h96 (by rw [e])
            omega
          refine go_aload0 C (pc := 99) dL_isUprooted_99 ?_
          refine go_iload2 C (pc := 100) dL_isUprooted_100 ?_
          refine go_iconst C (pc := 101) (v := 2) (by decide) dL_isUprooted_101 ?_
          refine go_isub C (pc := 102) dL_isUprooted_102 ?_
          refine go_top (y := nI (n - 2)) e2 ?_
          refine go_ciV1 C (pc := 103) obj_0 (q_neighbors C.fl C.ok H11 _ (show n - 2 < n - 1 by omega)) gL_isUprooted_X7_neighbors rfl rfl yok_X7_neighbors ⟨rfl, rfl⟩ ⟨Nat.le_of_ble_eq_true rfl, Nat.le_of_ble_eq_true rfl⟩ (Nat.le_of_ble_eq_true rfl) ⟨Nat.zero_le _, Nat.zero_le _⟩ dL_isUprooted_103 (fun r14 μ14 hc14 => ?_)
          obtain ⟨rfl, H14⟩ := hc14
          refine go_iload7 C (pc := 106) dL_isUprooted_106 ?_
          refine go_icmp_ne C (pc := 108) (tgt := 127) dL_isUprooted_108 (by decide) (fun h108 => ?_) (fun h108 => ?_)
          · exact absurd (pull_due H.T hl) h108
          · refine go_aload0 C (pc := 111) dL_isUprooted_111 ?_
            refine go_iload2 C (pc := 112) dL_isUprooted_112 ?_
            refine go_iconst C (pc := 113) (v := 2) (by decide) dL_isUprooted_113 ?_
            refine go_isub C (pc := 114) dL_isUprooted_114 ?_
            refine go_top (y := nI (n - 2)) e2 ?_
            refine go_ciV1 C (pc := 115) obj_0 (q_isPropped C.fl C.ok H14 _ (show n - 2 < n - 1 by omega)) gL_isUprooted_X7_isPropped rfl rfl yok_X7_isPropped ⟨rfl, rfl⟩ ⟨Nat.le_of_ble_eq_true rfl, Nat.le_of_ble_eq_true rfl⟩ (Nat.le_of_ble_eq_true rfl) ⟨Nat.zero_le _, Nat.zero_le _⟩ dL_isUprooted_115 (fun r16 μ16 hc16 => ?_)
            obtain ⟨rfl, H16⟩ := hc16
            refine go_iload6 C (pc := 118) dL_isUprooted_118 ?_
            refine go_icmp_ne C (pc := 120) (tgt := 127) dL_isUprooted_120 (by decide) (fun h120 => ?_) (fun h120 => ?_)
            · exact absurd (by rw [bt_close _ (show a ≤ 16 by omega) (show n - 2 < 32 by omega), show shN a (n - 2) = n - 1 from by unfold shN; rw [if_neg (by omega)]; omega]) h120
            · refine go_iconst C (pc := 123) (v := 1) (by decide) dL_isUprooted_123 ?_
              refine go_goto C (pc := 124) (tgt := 128) dL_isUprooted_124 (by decide) ?_
              exact go_zret C hr dL_isUprooted_128 (Or.inr rfl) ⟨rfl, H16⟩

theorem yok_L_isThornSo : yOK yL_isThornSo 3 := by unfold yOK; decide +kernel
set_option maxRecDepth 20000 in
set_option maxHeartbeats 4000000 in
theorem c_L_isThornSo {l : Launch} {D : va_G} {ad : Nat → Nat} {cI cL : ClassId} (hfl : l.flags = flags0) (hok : adOK ad) {μ : Mem} {n : Nat} {pr : Int32} {th : Nat → Int32} (H : Bs n pr th μ) (a b : Nat) (ha : a < n) (hb : b < n) (h0 : bt (th a) b = true) : CtI l D ad cI cL yL_isThornSo wsL_isThornSo (RM 9 162) [.ref (ad 0), .int (nI a), .int (nI b)] μ (fun (r : Int32) (μ' : Mem) => r = 1 ∧ Bs n pr th μ') := by
  refine ct_i (cc := cL_isThornSo) (maxL := 4) (own := RL) .boolean hfl hok (by decide) rfl rfl rfl (Nat.le_of_ble_eq_true rfl) (fun p e s m below meth c C hr => ?_)
  refine go_lv (lv' := [some (.ref (ad 0)), some (.int (nI a)), some (.int (nI b)), none]) rfl ?_
  have hn := H.T.1
  have h02 : bt (th b) a = true := by rw [← H.T.2.2.2 a b (by omega) (by omega)]; exact h0
  refine go_aload0 C (pc := 0) dL_isThornSo_0 ?_
  refine go_iload1 C (pc := 1) dL_isThornSo_1 ?_
  refine go_iload2 C (pc := 2) dL_isThornSo_2 ?_
  refine go_ciV2 C (pc := 3) obj_0 (q_trussOf C.fl C.ok H _ _ ha hb h0) gL_isThornSo_X7_trussOf rfl rfl yok_X7_trussOf ⟨rfl, rfl⟩ ⟨Nat.le_of_ble_eq_true rfl, Nat.le_of_ble_eq_true rfl⟩ (Nat.le_of_ble_eq_true rfl) ⟨Nat.zero_le _, Nat.zero_le _⟩ dL_isThornSo_3 (fun r1 μ1 hc1 => ?_)
  obtain ⟨rfl, H1⟩ := hc1
  refine go_istore3 C (pc := 6) dL_isThornSo_6 ?_
  refine go_aload0 C (pc := 7) dL_isThornSo_7 ?_
  refine go_iload1 C (pc := 8) dL_isThornSo_8 ?_
  refine go_iload2 C (pc := 9) dL_isThornSo_9 ?_
  refine go_ciV2 C (pc := 10) obj_0 (q_trussByRounds C.fl C.ok H1 _ _ ha hb h0) gL_isThornSo_X7_trussByRounds rfl rfl yok_X7_trussByRounds ⟨rfl, rfl⟩ ⟨Nat.le_of_ble_eq_true rfl, Nat.le_of_ble_eq_true rfl⟩ (Nat.le_of_ble_eq_true rfl) ⟨Nat.zero_le _, Nat.zero_le _⟩ dL_isThornSo_10 (fun r2 μ2 hc2 => ?_)
  obtain ⟨rfl, H2⟩ := hc2
  refine go_iload3 C (pc := 13) dL_isThornSo_13 ?_
  refine go_icmp_ne C (pc := 14) (tgt := 76) dL_isThornSo_14 (by decide) (fun h14 => ?_) (fun h14 => ?_)
  · exact absurd (rfl) h14
  · refine go_aload0 C (pc := 17) dL_isThornSo_17 ?_
    refine go_iload2 C (pc := 18) dL_isThornSo_18 ?_
    refine go_iload1 C (pc := 19) dL_isThornSo_19 ?_
    refine go_ciV2 C (pc := 20) obj_0 (q_trussOf C.fl C.ok H2 _ _ hb ha h02) gL_isThornSo_X7_trussOf rfl rfl yok_X7_trussOf ⟨rfl, rfl⟩ ⟨Nat.le_of_ble_eq_true rfl, Nat.le_of_ble_eq_true rfl⟩ (Nat.le_of_ble_eq_true rfl) ⟨Nat.zero_le _, Nat.zero_le _⟩ dL_isThornSo_20 (fun r4 μ4 hc4 => ?_)
    obtain ⟨rfl, H4⟩ := hc4
    refine go_iload3 C (pc := 23) dL_isThornSo_23 ?_
    refine go_icmp_ne C (pc := 24) (tgt := 76) dL_isThornSo_24 (by decide) (fun h24 => ?_) (fun h24 => ?_)
    · exact absurd (by rw [trN_sy H.T (by omega) (by omega)]) h24
    · refine go_iload3 C (pc := 27) dL_isThornSo_27 ?_
      refine go_if_lt C (pc := 28) (tgt := 76) dL_isThornSo_28 (by decide) (fun h28 => ?_) (fun h28 => ?_)
      · exact absurd h28 (nI_pos (by have := trN_le th n a b; omega))
      · refine go_iload3 C (pc := 31) dL_isThornSo_31 ?_
        refine go_aload0 C (pc := 32) dL_isThornSo_32 ?_
        refine go_iload1 C (pc := 33) dL_isThornSo_33 ?_
        refine go_iload2 C (pc := 34) dL_isThornSo_34 ?_
        refine go_ciV2 C (pc := 35) obj_0 (q_support C.fl C.ok H4 _ _ ha hb h0) gL_isThornSo_X7_support rfl rfl yok_X7_support ⟨rfl, rfl⟩ ⟨Nat.le_of_ble_eq_true rfl, Nat.le_of_ble_eq_true rfl⟩ (Nat.le_of_ble_eq_true rfl) ⟨Nat.zero_le _, Nat.zero_le _⟩ dL_isThornSo_35 (fun r7 μ7 hc7 => ?_)
        obtain ⟨rfl, H7⟩ := hc7
        refine go_icmp_gt C (pc := 38) (tgt := 76) dL_isThornSo_38 (by decide) (fun h38 => ?_) (fun h38 => ?_)
        · exact absurd h38 (nI_nlt (trN_sup H.T (by omega) (by omega) h0) (by have := ct_le (th a &&& th b); omega))
        · refine go_aload0 C (pc := 41) dL_isThornSo_41 ?_
          refine go_iload1 C (pc := 42) dL_isThornSo_42 ?_
          refine go_iload2 C (pc := 43) dL_isThornSo_43 ?_
          refine go_ciV2 C (pc := 44) obj_0 (q_support C.fl C.ok H7 _ _ ha hb h0) gL_isThornSo_X7_support rfl rfl yok_X7_support ⟨rfl, rfl⟩ ⟨Nat.le_of_ble_eq_true rfl, Nat.le_of_ble_eq_true rfl⟩ (Nat.le_of_ble_eq_true rfl) ⟨Nat.zero_le _, Nat.zero_le _⟩ dL_isThornSo_44 (fun r9 μ9 hc9 => ?_)
          obtain ⟨rfl, H9⟩ := hc9
          refine go_aload0 C (pc := 47) dL_isThornSo_47 ?_
          refine go_iload1 C (pc := 48) dL_isThornSo_48 ?_
          refine go_ciV1 C (pc := 49) obj_0 (q_neighbors C.fl C.ok H9 _ ha) gL_isThornSo_X7_neighbors rfl rfl yok_X7_neighbors ⟨rfl, rfl⟩ ⟨Nat.le_of_ble_eq_true rfl, Nat.le_of_ble_eq_true rfl⟩ (Nat.le_of_ble_eq_true rfl) ⟨Nat.zero_le _, Nat.zero_le _⟩ dL_isThornSo_49 (fun r10 μ10 hc10 => ?_)
          obtain ⟨rfl, H10⟩ := hc10
          refine go_aload0 C (pc := 52) dL_isThornSo_52 ?_
          refine go_iload2 C (pc := 53) dL_isThornSo_53 ?_
          refine go_ciV1 C (pc := 54) obj_0 (q_neighbors C.fl C.ok H10 _ hb) gL_isThornSo_X7_neighbors rfl rfl yok_X7_neighbors ⟨rfl, rfl⟩ ⟨Nat.le_of_ble_eq_true rfl, Nat.le_of_ble_eq_true rfl⟩ (Nat.le_of_ble_eq_true rfl) ⟨Nat.zero_le _, Nat.zero_le _⟩ dL_isThornSo_54 (fun r11 μ11 hc11 => ?_)
          obtain ⟨rfl, H11⟩ := hc11
          refine go_iand C (pc := 57) dL_isThornSo_57 ?_
          refine go_ciS1 C (pc := 58) (c_L_bits C.fl C.ok _ _ (sm_and _ (sm_row H11.T (by omega)))) gL_isThornSo_L_bits rfl yok_L_bits ⟨rfl, rfl⟩ ⟨Nat.le_of_ble_eq_true rfl, Nat.le_of_ble_eq_true rfl⟩ (Nat.le_of_ble_eq_true rfl) ⟨Nat.zero_le _, Nat.zero_le _⟩ dL_isThornSo_58 (fun r12 μ12 hc12 => ?_)
          obtain ⟨rfl, hm12⟩ := hc12
          replace hm12 := hm12.symm
          subst hm12
          refine go_icmp_ne C (pc := 61) (tgt := 76) dL_isThornSo_61 (by decide) (fun h61 => ?_) (fun h61 => ?_)
          · exact absurd (rfl) h61
          · refine go_aload0 C (pc := 64) dL_isThornSo_64 ?_
            refine go_iload3 C (pc := 65) dL_isThornSo_65 ?_
            refine go_ciV1 C (pc := 66) obj_0 (q_trussSize C.fl C.ok H11 _ (trN_le _ _ _ _)) gL_isThornSo_X7_trussSize rfl rfl yok_X7_trussSize ⟨rfl, rfl⟩ ⟨Nat.le_of_ble_eq_true rfl, Nat.le_of_ble_eq_true rfl⟩ (Nat.le_of_ble_eq_true rfl) ⟨Nat.zero_le _, Nat.zero_le _⟩ dL_isThornSo_66 (fun r14 μ14 hc14 => ?_)
            obtain ⟨rfl, H14⟩ := hc14
            refine go_if_le C (pc := 69) (tgt := 76) dL_isThornSo_69 (by decide) (fun h69 => ?_) (fun h69 => ?_)
            · exact absurd h69 (nI_nle (trS_pos H.T (by omega) (by omega) h0) (by have := sumE_le (trE_is (k := trN th n a b) H.T).1.1; omega))
            · refine go_iconst C (pc := 72) (v := 1) (by decide) dL_isThornSo_72 ?_
              refine go_goto C (pc := 73) (tgt := 77) dL_isThornSo_73 (by decide) ?_
              exact go_zret C hr dL_isThornSo_77 (Or.inr rfl) ⟨rfl, H14⟩

theorem yok_L_does : yOK yL_does 3 := by unfold yOK; decide +kernel
set_option maxRecDepth 20000 in
set_option maxHeartbeats 4000000 in
theorem c_L_does {l : Launch} {D : va_G} {ad : Nat → Nat} {cI cL : ClassId} (hfl : l.flags = flags0) (hok : adOK ad) {μ : Mem} {n : Nat} {pr : Int32} {th : Nat → Int32} (H : Bs n pr th μ) (v w : Int32) : CtI l D ad cI cL yL_does wsL_does (RM 10 181) [.ref (ad 0), .int v, .int w] μ (fun (r : Int32) (μ' : Mem) => r = 1 ∧ ∃ (n' : Nat) (pr' : Int32) (th' : Nat → Int32), 0 < n' ∧ Bs n' pr' th' μ') := by
  refine ct_i (cc := cL_does) (maxL := 7) (own := RL) .boolean hfl hok (by decide) rfl rfl rfl (Nat.le_of_ble_eq_true rfl) (fun p e s m below meth c C hr => ?_)
  refine go_lv (lv' := [some (.ref (ad 0)), some (.int v), some (.int w), none, none, none, none]) rfl ?_
  have hn := H.T.1
  refine go_aload0 C (pc := 0) dL_does_0 ?_
  refine go_ciV0 C (pc := 1) obj_0 (q_plantCount C.fl C.ok H) gL_does_X7_plantCount rfl rfl yok_X7_plantCount ⟨rfl, rfl⟩ ⟨Nat.le_of_ble_eq_true rfl, Nat.le_of_ble_eq_true rfl⟩ (Nat.le_of_ble_eq_true rfl) ⟨Nat.zero_le _, Nat.zero_le _⟩ dL_does_1 (fun r1 μ1 hc1 => ?_)
  obtain ⟨rfl, H1⟩ := hc1
  refine go_istore3 C (pc := 4) dL_does_4 ?_
  refine go_iload3 C (pc := 5) dL_does_5 ?_
  refine go_iconst C (pc := 6) (v := 4) (by decide) dL_does_6 ?_
  refine go_icmp_lt C (pc := 7) (tgt := 23) dL_does_7 (by decide) (fun h7 => ?_) (fun h7 => ?_)
  · have hlt : n < 16 := by
      have h9 := nlt (a := n) (b := 4) (by omega) (by decide) h7
      omega
    refine go_aload0 C (pc := 23) dL_does_23 ?_
    refine go_ciV0 C (pc := 24) obj_0 (u_plant C.fl C.ok H1 hlt) gL_does_X7_plant rfl rfl yok_X7_plant ⟨rfl, rfl⟩ ⟨Nat.le_of_ble_eq_true rfl, Nat.le_of_ble_eq_true rfl⟩ (Nat.le_of_ble_eq_true rfl) ⟨Nat.zero_le _, Nat.zero_le _⟩ dL_does_24 (fun r3 μ3 hc3 => ?_)
    obtain ⟨rfl, H3⟩ := hc3
    refine go_iload3 C (pc := 27) dL_does_27 ?_
    refine go_icmp_ne C (pc := 28) (tgt := 61) dL_does_28 (by decide) (fun h28 => ?_) (fun h28 => ?_)
    · exact absurd (rfl) h28
    · refine go_aload0 C (pc := 31) dL_does_31 ?_
      refine go_ciV0 C (pc := 32) obj_0 (q_plantCount C.fl C.ok H3) gL_does_X7_plantCount rfl rfl yok_X7_plantCount ⟨rfl, rfl⟩ ⟨Nat.le_of_ble_eq_true rfl, Nat.le_of_ble_eq_true rfl⟩ (Nat.le_of_ble_eq_true rfl) ⟨Nat.zero_le _, Nat.zero_le _⟩ dL_does_32 (fun r5 μ5 hc5 => ?_)
      obtain ⟨rfl, H5⟩ := hc5
      refine go_iload3 C (pc := 35) dL_does_35 ?_
      refine go_iconst C (pc := 36) (v := 1) (by decide) dL_does_36 ?_
      refine go_iadd C (pc := 37) dL_does_37 ?_
      refine go_icmp_ne C (pc := 38) (tgt := 61) dL_does_38 (by decide) (fun h38 => ?_) (fun h38 => ?_)
      · exact absurd (by rw [nI_1]) h38
      · refine go_aload0 C (pc := 41) dL_does_41 ?_
        refine go_iload3 C (pc := 42) dL_does_42 ?_
        refine go_ciV1 C (pc := 43) obj_0 (q_neighbors C.fl C.ok H5 _ (Nat.lt_succ_self n)) gL_does_X7_neighbors rfl rfl yok_X7_neighbors ⟨rfl, rfl⟩ ⟨Nat.le_of_ble_eq_true rfl, Nat.le_of_ble_eq_true rfl⟩ (Nat.le_of_ble_eq_true rfl) ⟨Nat.zero_le _, Nat.zero_le _⟩ dL_does_43 (fun r7 μ7 hc7 => ?_)
        obtain ⟨rfl, H7⟩ := hc7
        refine go_if_ne C (pc := 46) (tgt := 61) dL_does_46 (by decide) (fun h46 => ?_) (fun h46 => ?_)
        · exact absurd (nb_0 H.T hlt) h46
        · refine go_aload0 C (pc := 49) dL_does_49 ?_
          refine go_iload3 C (pc := 50) dL_does_50 ?_
          refine go_ciV1 C (pc := 51) obj_0 (q_isPropped C.fl C.ok H7 _ (Nat.lt_succ_self n)) gL_does_X7_isPropped rfl rfl yok_X7_isPropped ⟨rfl, rfl⟩ ⟨Nat.le_of_ble_eq_true rfl, Nat.le_of_ble_eq_true rfl⟩ (Nat.le_of_ble_eq_true rfl) ⟨Nat.zero_le _, Nat.zero_le _⟩ dL_does_51 (fun r9 μ9 hc9 => ?_)
          obtain ⟨rfl, H9⟩ := hc9
          refine go_if_ne C (pc := 54) (tgt := 61) dL_does_54 (by decide) (fun h54 => ?_) (fun h54 => ?_)
          · exact absurd (by rw [pr_n H.T]; rfl) h54
          · refine go_iconst C (pc := 57) (v := 1) (by decide) dL_does_57 ?_
            refine go_goto C (pc := 58) (tgt := 62) dL_does_58 (by decide) ?_
            exact go_zret C hr dL_does_62 (Or.inr rfl) ⟨rfl, _, _, _, (by omega), H9⟩
  · refine go_iload1 C (pc := 10) dL_does_10 ?_
    refine go_bipush C (pc := 11) (v := 15) (by decide) dL_does_11 ?_
    refine go_iand C (pc := 13) dL_does_13 ?_
    refine go_if_ne C (pc := 14) (tgt := 63) dL_does_14 (by decide) (fun h14 => ?_) (fun h14 => ?_)
    · have h4 : 4 ≤ n := nle (a := n) (b := 4) (by omega) (by decide) h7
      refine go_iload1 C (pc := 63) dL_does_63 ?_
      refine go_iconst C (pc := 64) (v := 4) (by decide) dL_does_64 ?_
      refine go_ishr C (pc := 65) dL_does_65 ?_
      refine go_iload3 C (pc := 66) dL_does_66 ?_
      refine go_ciS2 C (pc := 67) (c_L_low C.fl C.ok _ _ _ (by omega) (by omega)) gL_does_L_low rfl yok_L_low ⟨rfl, rfl⟩ ⟨Nat.le_of_ble_eq_true rfl, Nat.le_of_ble_eq_true rfl⟩ (Nat.le_of_ble_eq_true rfl) ⟨Nat.zero_le _, Nat.zero_le _⟩ dL_does_67 (fun r12 μ12 hc12 => ?_)
      obtain ⟨⟨a, ha, rfl⟩, hm12⟩ := hc12
      replace hm12 := hm12.symm
      subst hm12
      refine go_istore4 C (pc := 70) dL_does_70 ?_
      refine go_iload4 C (pc := 72) dL_does_72 ?_
      refine go_iconst C (pc := 74) (v := 1) (by decide) dL_does_74 ?_
      refine go_iadd C (pc := 75) dL_does_75 ?_
      refine go_top (y := nI (a + 1)) (nI_1 a) ?_
      refine go_iload2 C (pc := 76) dL_does_76 ?_
      refine go_iload3 C (pc := 77) dL_does_77 ?_
      refine go_iconst C (pc := 78) (v := 1) (by decide) dL_does_78 ?_
      refine go_isub C (pc := 79) dL_does_79 ?_
      refine go_top (y := nI (n - 1)) (by rw [show (1 : Int32) = nI 1 from rfl, pk_sub (show 1 ≤ n by omega)]) ?_
      refine go_ciS2 C (pc := 80) (c_L_low C.fl C.ok _ _ _ (show 0 < n - 1 by omega) (by omega)) gL_does_L_low rfl yok_L_low ⟨rfl, rfl⟩ ⟨Nat.le_of_ble_eq_true rfl, Nat.le_of_ble_eq_true rfl⟩ (Nat.le_of_ble_eq_true rfl) ⟨Nat.zero_le _, Nat.zero_le _⟩ dL_does_80 (fun r13 μ13 hc13 => ?_)
      obtain ⟨⟨c0, hc0, rfl⟩, hm13⟩ := hc13
      replace hm13 := hm13.symm
      subst hm13
      refine go_iadd C (pc := 83) dL_does_83 ?_
      refine go_iload3 C (pc := 84) dL_does_84 ?_
      refine go_irem C (pc := 85) (fun e => absurd (nI_inj3 (by omega) (by decide) (e.trans (show (0 : Int32) = nI 0 from rfl))) (by omega)) dL_does_85 ?_
      refine go_top (y := nI ((a + 1 + c0) % n)) (by rw [nI_add]; exact pk_rem (by omega) (by omega) (by omega)) ?_
      have hb : (a + 1 + c0) % n < n := Nat.mod_lt _ (by omega)
      have hne := mod_ne ha hc0
      generalize (a + 1 + c0) % n = b at hb hne ⊢
      refine go_istore5 C (pc := 86) dL_does_86 ?_
      refine go_iload1 C (pc := 88) dL_does_88 ?_
      refine go_bipush C (pc := 89) (v := 15) (by decide) dL_does_89 ?_
      refine go_iand C (pc := 91) dL_does_91 ?_
      obtain ⟨z, hz, ez⟩ := and_15 v
      refine go_top (y := nI z) ez ?_
      rcases (show z = 1 ∨ z = 2 ∨ z = 3 ∨ z = 4 ∨ z = 5 ∨ (z = 0 ∨ 6 ≤ z) by omega) with rfl | rfl | rfl | rfl | rfl | hzo
      · refine go_tabIn C (pc := 92) (off := 36) (tgt := 128) dL_does_92 (by decide) (by decide) (by decide) (by decide) ?_
        refine go_iload2 C (pc := 128) dL_does_128 ?_
        refine go_bipush C (pc := 129) (v := 7) (by decide) dL_does_129 ?_
        refine go_iand C (pc := 131) dL_does_131 ?_
        refine go_if_gt C (pc := 132) (tgt := 150) dL_does_132 (by decide) (fun h132 => ?_) (fun h132 => ?_)
        · refine go_iconst C (pc := 150) (v := 1) (by decide) dL_does_150 ?_
          refine go_goto C (pc := 151) (tgt := 155) dL_does_151 (by decide) ?_
          exact go_zret C hr dL_does_155 (Or.inr rfl) ⟨rfl, _, _, _, (by omega), H1⟩
        · refine go_iload3 C (pc := 135) dL_does_135 ?_
          refine go_bipush C (pc := 136) (v := 6) (by decide) dL_does_136 ?_
          refine go_icmp_lt C (pc := 138) (tgt := 150) dL_does_138 (by decide) (fun h138 => ?_) (fun h138 => ?_)
          · refine go_iconst C (pc := 150) (v := 1) (by decide) dL_does_150 ?_
            refine go_goto C (pc := 151) (tgt := 155) dL_does_151 (by decide) ?_
            exact go_zret C hr dL_does_155 (Or.inr rfl) ⟨rfl, _, _, _, (by omega), H1⟩
          · refine go_aload0 C (pc := 141) dL_does_141 ?_
            refine go_iload4 C (pc := 142) dL_does_142 ?_
            refine go_ciS2 C (pc := 144) (c_L_isUprooted C.fl C.ok H1 _ ha (nle (a := n) (b := 6) (by omega) (by decide) h138)) gL_does_L_isUprooted rfl yok_L_isUprooted ⟨rfl, rfl⟩ ⟨Nat.le_of_ble_eq_true rfl, Nat.le_of_ble_eq_true rfl⟩ (Nat.le_of_ble_eq_true rfl) ⟨Nat.zero_le _, Nat.zero_le _⟩ dL_does_144 (fun r16 μ16 hc16 => ?_)
            obtain ⟨rfl, H16⟩ := hc16
            refine go_if_eq C (pc := 147) (tgt := 154) dL_does_147 (by decide) (fun h147 => ?_) (fun h147 => ?_)
            · exact absurd h147 (by decide)
            · refine go_iconst C (pc := 150) (v := 1) (by decide) dL_does_150 ?_
              refine go_goto C (pc := 151) (tgt := 155) dL_does_151 (by decide) ?_
              exact go_zret C hr dL_does_155 (Or.inr rfl) ⟨rfl, _, _, _, (by omega), H16⟩
      · refine go_tabIn C (pc := 92) (off := 64) (tgt := 156) dL_does_92 (by decide) (by decide) (by decide) (by decide) ?_
        refine go_aload0 C (pc := 156) dL_does_156 ?_
        refine go_iload4 C (pc := 157) dL_does_157 ?_
        refine go_ciV1 C (pc := 159) obj_0 (q_isPropped C.fl C.ok H1 _ ha) gL_does_X7_isPropped rfl rfl yok_X7_isPropped ⟨rfl, rfl⟩ ⟨Nat.le_of_ble_eq_true rfl, Nat.le_of_ble_eq_true rfl⟩ (Nat.le_of_ble_eq_true rfl) ⟨Nat.zero_le _, Nat.zero_le _⟩ dL_does_159 (fun r18 μ18 hc18 => ?_)
        obtain ⟨rfl, H18⟩ := hc18
        refine go_istore6 C (pc := 162) dL_does_162 ?_
        refine go_aload0 C (pc := 164) dL_does_164 ?_
        refine go_iload4 C (pc := 165) dL_does_165 ?_
        refine go_ciV1 C (pc := 167) obj_0 (u_switchProp C.fl C.ok H18 _ ha) gL_does_X7_switchProp rfl rfl yok_X7_switchProp ⟨rfl, rfl⟩ ⟨Nat.le_of_ble_eq_true rfl, Nat.le_of_ble_eq_true rfl⟩ (Nat.le_of_ble_eq_true rfl) ⟨Nat.zero_le _, Nat.zero_le _⟩ dL_does_167 (fun r19 μ19 hc19 => ?_)
        obtain ⟨rfl, H19⟩ := hc19
        refine go_iload6 C (pc := 170) dL_does_170 ?_
        refine go_icmp_eq C (pc := 172) (tgt := 190) dL_does_172 (by decide) (fun h172 => ?_) (fun h172 => ?_)
        · exact absurd h172 (by cases bt pr a <;> decide)
        · refine go_aload0 C (pc := 175) dL_does_175 ?_
          refine go_iload4 C (pc := 176) dL_does_176 ?_
          refine go_ciV1 C (pc := 178) obj_0 (q_isPropped C.fl C.ok H19 _ ha) gL_does_X7_isPropped rfl rfl yok_X7_isPropped ⟨rfl, rfl⟩ ⟨Nat.le_of_ble_eq_true rfl, Nat.le_of_ble_eq_true rfl⟩ (Nat.le_of_ble_eq_true rfl) ⟨Nat.zero_le _, Nat.zero_le _⟩ dL_does_178 (fun r21 μ21 hc21 => ?_)
          obtain ⟨rfl, H21⟩ := hc21
          refine go_iload6 C (pc := 181) dL_does_181 ?_
          refine go_icmp_eq C (pc := 183) (tgt := 190) dL_does_183 (by decide) (fun h183 => ?_) (fun h183 => ?_)
          · exact absurd h183 (by rw [b_xor, bitI, b_bit (by omega), decide_eq_true rfl]; cases bt pr a <;> decide)
          · refine go_iconst C (pc := 186) (v := 1) (by decide) dL_does_186 ?_
            refine go_goto C (pc := 187) (tgt := 191) dL_does_187 (by decide) ?_
            exact go_zret C hr dL_does_191 (Or.inr rfl) ⟨rfl, _, _, _, (by omega), H21⟩
      · refine go_tabIn C (pc := 92) (off := 64) (tgt := 156) dL_does_92 (by decide) (by decide) (by decide) (by decide) ?_
        refine go_aload0 C (pc := 156) dL_does_156 ?_
        refine go_iload4 C (pc := 157) dL_does_157 ?_
        refine go_ciV1 C (pc := 159) obj_0 (q_isPropped C.fl C.ok H1 _ ha) gL_does_X7_isPropped rfl rfl yok_X7_isPropped ⟨rfl, rfl⟩ ⟨Nat.le_of_ble_eq_true rfl, Nat.le_of_ble_eq_true rfl⟩ (Nat.le_of_ble_eq_true rfl) ⟨Nat.zero_le _, Nat.zero_le _⟩ dL_does_159 (fun r23 μ23 hc23 => ?_)
        obtain ⟨rfl, H23⟩ := hc23
        refine go_istore6 C (pc := 162) dL_does_162 ?_
        refine go_aload0 C (pc := 164) dL_does_164 ?_
        refine go_iload4 C (pc := 165) dL_does_165 ?_
        refine go_ciV1 C (pc := 167) obj_0 (u_switchProp C.fl C.ok H23 _ ha) gL_does_X7_switchProp rfl rfl yok_X7_switchProp ⟨rfl, rfl⟩ ⟨Nat.le_of_ble_eq_true rfl, Nat.le_of_ble_eq_true rfl⟩ (Nat.le_of_ble_eq_true rfl) ⟨Nat.zero_le _, Nat.zero_le _⟩ dL_does_167 (fun r24 μ24 hc24 => ?_)
        obtain ⟨rfl, H24⟩ := hc24
        refine go_iload6 C (pc := 170) dL_does_170 ?_
        refine go_icmp_eq C (pc := 172) (tgt := 190) dL_does_172 (by decide) (fun h172 => ?_) (fun h172 => ?_)
        · exact absurd h172 (by cases bt pr a <;> decide)
        · refine go_aload0 C (pc := 175) dL_does_175 ?_
          refine go_iload4 C (pc := 176) dL_does_176 ?_
          refine go_ciV1 C (pc := 178) obj_0 (q_isPropped C.fl C.ok H24 _ ha) gL_does_X7_isPropped rfl rfl yok_X7_isPropped ⟨rfl, rfl⟩ ⟨Nat.le_of_ble_eq_true rfl, Nat.le_of_ble_eq_true rfl⟩ (Nat.le_of_ble_eq_true rfl) ⟨Nat.zero_le _, Nat.zero_le _⟩ dL_does_178 (fun r26 μ26 hc26 => ?_)
          obtain ⟨rfl, H26⟩ := hc26
          refine go_iload6 C (pc := 181) dL_does_181 ?_
          refine go_icmp_eq C (pc := 183) (tgt := 190) dL_does_183 (by decide) (fun h183 => ?_) (fun h183 => ?_)
          · exact absurd h183 (by rw [b_xor, bitI, b_bit (by omega), decide_eq_true rfl]; cases bt pr a <;> decide)
          · refine go_iconst C (pc := 186) (v := 1) (by decide) dL_does_186 ?_
            refine go_goto C (pc := 187) (tgt := 191) dL_does_187 (by decide) ?_
            exact go_zret C hr dL_does_191 (Or.inr rfl) ⟨rfl, _, _, _, (by omega), H26⟩
      · refine go_tabIn C (pc := 92) (off := 100) (tgt := 192) dL_does_92 (by decide) (by decide) (by decide) (by decide) ?_
        refine go_aload0 C (pc := 192) dL_does_192 ?_
        refine go_iload4 C (pc := 193) dL_does_193 ?_
        refine go_ciV1 C (pc := 195) obj_0 (q_neighbors C.fl C.ok H1 _ ha) gL_does_X7_neighbors rfl rfl yok_X7_neighbors ⟨rfl, rfl⟩ ⟨Nat.le_of_ble_eq_true rfl, Nat.le_of_ble_eq_true rfl⟩ (Nat.le_of_ble_eq_true rfl) ⟨Nat.zero_le _, Nat.zero_le _⟩ dL_does_195 (fun r28 μ28 hc28 => ?_)
        obtain ⟨rfl, H28⟩ := hc28
        refine go_iload5 C (pc := 198) dL_does_198 ?_
        refine go_ishr C (pc := 200) dL_does_200 ?_
        refine go_iconst C (pc := 201) (v := 1) (by decide) dL_does_201 ?_
        refine go_iand C (pc := 202) dL_does_202 ?_
        refine go_top (y := b2i (bt (th a) b)) (ask_b (by omega) (sm_row H.T (by omega))) ?_
        refine go_if_eq C (pc := 203) (tgt := 217) dL_does_203 (by decide) (fun h203 => ?_) (fun h203 => ?_)
        · refine go_iconst C (pc := 217) (v := 1) (by decide) dL_does_217 ?_
          refine go_goto C (pc := 218) (tgt := 222) dL_does_218 (by decide) ?_
          exact go_zret C hr dL_does_222 (Or.inr rfl) ⟨rfl, _, _, _, (by omega), H28⟩
        · refine go_aload0 C (pc := 206) dL_does_206 ?_
          refine go_iload4 C (pc := 207) dL_does_207 ?_
          refine go_iload5 C (pc := 209) dL_does_209 ?_
          refine go_ciS3 C (pc := 211) (c_L_isCut C.fl C.ok H28 _ _ ha hb hne (bneg h203)) gL_does_L_isCut rfl yok_L_isCut ⟨rfl, rfl⟩ ⟨Nat.le_of_ble_eq_true rfl, Nat.le_of_ble_eq_true rfl⟩ (Nat.le_of_ble_eq_true rfl) ⟨Nat.zero_le _, Nat.zero_le _⟩ dL_does_211 (fun r30 μ30 hc30 => ?_)
          obtain ⟨rfl, H30⟩ := hc30
          refine go_if_eq C (pc := 214) (tgt := 221) dL_does_214 (by decide) (fun h214 => ?_) (fun h214 => ?_)
          · exact absurd h214 (by decide)
          · refine go_iconst C (pc := 217) (v := 1) (by decide) dL_does_217 ?_
            refine go_goto C (pc := 218) (tgt := 222) dL_does_218 (by decide) ?_
            exact go_zret C hr dL_does_222 (Or.inr rfl) ⟨rfl, _, _, _, (by omega), H30⟩
      · refine go_tabIn C (pc := 92) (off := 100) (tgt := 192) dL_does_92 (by decide) (by decide) (by decide) (by decide) ?_
        refine go_aload0 C (pc := 192) dL_does_192 ?_
        refine go_iload4 C (pc := 193) dL_does_193 ?_
        refine go_ciV1 C (pc := 195) obj_0 (q_neighbors C.fl C.ok H1 _ ha) gL_does_X7_neighbors rfl rfl yok_X7_neighbors ⟨rfl, rfl⟩ ⟨Nat.le_of_ble_eq_true rfl, Nat.le_of_ble_eq_true rfl⟩ (Nat.le_of_ble_eq_true rfl) ⟨Nat.zero_le _, Nat.zero_le _⟩ dL_does_195 (fun r32 μ32 hc32 => ?_)
        obtain ⟨rfl, H32⟩ := hc32
        refine go_iload5 C (pc := 198) dL_does_198 ?_
        refine go_ishr C (pc := 200) dL_does_200 ?_
        refine go_iconst C (pc := 201) (v := 1) (by decide) dL_does_201 ?_
        refine go_iand C (pc := 202) dL_does_202 ?_
        refine go_top (y := b2i (bt (th a) b)) (ask_b (by omega) (sm_row H.T (by omega))) ?_
        refine go_if_eq C (pc := 203) (tgt := 217) dL_does_203 (by decide) (fun h203 => ?_) (fun h203 => ?_)
        · refine go_iconst C (pc := 217) (v := 1) (by decide) dL_does_217 ?_
          refine go_goto C (pc := 218) (tgt := 222) dL_does_218 (by decide) ?_
          exact go_zret C hr dL_does_222 (Or.inr rfl) ⟨rfl, _, _, _, (by omega), H32⟩
        · refine go_aload0 C (pc := 206) dL_does_206 ?_
          refine go_iload4 C (pc := 207) dL_does_207 ?_
          refine go_iload5 C (pc := 209) dL_does_209 ?_
          refine go_ciS3 C (pc := 211) (c_L_isCut C.fl C.ok H32 _ _ ha hb hne (bneg h203)) gL_does_L_isCut rfl yok_L_isCut ⟨rfl, rfl⟩ ⟨Nat.le_of_ble_eq_true rfl, Nat.le_of_ble_eq_true rfl⟩ (Nat.le_of_ble_eq_true rfl) ⟨Nat.zero_le _, Nat.zero_le _⟩ dL_does_211 (fun r34 μ34 hc34 => ?_)
          obtain ⟨rfl, H34⟩ := hc34
          refine go_if_eq C (pc := 214) (tgt := 221) dL_does_214 (by decide) (fun h214 => ?_) (fun h214 => ?_)
          · exact absurd h214 (by decide)
          · refine go_iconst C (pc := 217) (v := 1) (by decide) dL_does_217 ?_
            refine go_goto C (pc := 218) (tgt := 222) dL_does_218 (by decide) ?_
            exact go_zret C hr dL_does_222 (Or.inr rfl) ⟨rfl, _, _, _, (by omega), H34⟩
      · refine go_tabOut C (pc := 92) (tgt := 223) dL_does_92 (sw_out z (by omega) hzo) (by decide) ?_
        refine go_aload0 C (pc := 223) dL_does_223 ?_
        refine go_iload4 C (pc := 224) dL_does_224 ?_
        refine go_ciV1 C (pc := 226) obj_0 (q_neighbors C.fl C.ok H1 _ ha) gL_does_X7_neighbors rfl rfl yok_X7_neighbors ⟨rfl, rfl⟩ ⟨Nat.le_of_ble_eq_true rfl, Nat.le_of_ble_eq_true rfl⟩ (Nat.le_of_ble_eq_true rfl) ⟨Nat.zero_le _, Nat.zero_le _⟩ dL_does_226 (fun r36 μ36 hc36 => ?_)
        obtain ⟨rfl, H36⟩ := hc36
        refine go_iload5 C (pc := 229) dL_does_229 ?_
        refine go_ishr C (pc := 231) dL_does_231 ?_
        refine go_iconst C (pc := 232) (v := 1) (by decide) dL_does_232 ?_
        refine go_iand C (pc := 233) dL_does_233 ?_
        refine go_top (y := b2i (bt (th a) b)) (ask_b (by omega) (sm_row H.T (by omega))) ?_
        refine go_iconst C (pc := 234) (v := 1) (by decide) dL_does_234 ?_
        refine go_icmp_eq C (pc := 235) (tgt := 249) dL_does_235 (by decide) (fun h235 => ?_) (fun h235 => ?_)
        · refine go_iconst C (pc := 249) (v := 1) (by decide) dL_does_249 ?_
          refine go_goto C (pc := 250) (tgt := 254) dL_does_250 (by decide) ?_
          exact go_zret C hr dL_does_254 (Or.inr rfl) ⟨rfl, _, _, _, (by omega), H36⟩
        · refine go_aload0 C (pc := 238) dL_does_238 ?_
          refine go_iload4 C (pc := 239) dL_does_239 ?_
          refine go_iload5 C (pc := 241) dL_does_241 ?_
          refine go_ciS3 C (pc := 243) (c_L_isBound C.fl C.ok H36 _ _ ha hb hne (bn1 h235)) gL_does_L_isBound rfl yok_L_isBound ⟨rfl, rfl⟩ ⟨Nat.le_of_ble_eq_true rfl, Nat.le_of_ble_eq_true rfl⟩ (Nat.le_of_ble_eq_true rfl) ⟨Nat.zero_le _, Nat.zero_le _⟩ dL_does_243 (fun r38 μ38 hc38 => ?_)
          obtain ⟨rfl, H38⟩ := hc38
          refine go_if_eq C (pc := 246) (tgt := 253) dL_does_246 (by decide) (fun h246 => ?_) (fun h246 => ?_)
          · exact absurd h246 (by decide)
          · refine go_iconst C (pc := 249) (v := 1) (by decide) dL_does_249 ?_
            refine go_goto C (pc := 250) (tgt := 254) dL_does_250 (by decide) ?_
            exact go_zret C hr dL_does_254 (Or.inr rfl) ⟨rfl, _, _, _, (by omega), H38⟩
    · refine go_iload3 C (pc := 17) dL_does_17 ?_
      refine go_bipush C (pc := 18) (v := 16) (by decide) dL_does_18 ?_
      refine go_icmp_ge C (pc := 20) (tgt := 63) dL_does_20 (by decide) (fun h20 => ?_) (fun h20 => ?_)
      · have h4 : 4 ≤ n := nle (a := n) (b := 4) (by omega) (by decide) h7
        refine go_iload1 C (pc := 63) dL_does_63 ?_
        refine go_iconst C (pc := 64) (v := 4) (by decide) dL_does_64 ?_
        refine go_ishr C (pc := 65) dL_does_65 ?_
        refine go_iload3 C (pc := 66) dL_does_66 ?_
        refine go_ciS2 C (pc := 67) (c_L_low C.fl C.ok _ _ _ (by omega) (by omega)) gL_does_L_low rfl yok_L_low ⟨rfl, rfl⟩ ⟨Nat.le_of_ble_eq_true rfl, Nat.le_of_ble_eq_true rfl⟩ (Nat.le_of_ble_eq_true rfl) ⟨Nat.zero_le _, Nat.zero_le _⟩ dL_does_67 (fun r41 μ41 hc41 => ?_)
        obtain ⟨⟨a, ha, rfl⟩, hm41⟩ := hc41
        replace hm41 := hm41.symm
        subst hm41
        refine go_istore4 C (pc := 70) dL_does_70 ?_
        refine go_iload4 C (pc := 72) dL_does_72 ?_
        refine go_iconst C (pc := 74) (v := 1) (by decide) dL_does_74 ?_
        refine go_iadd C (pc := 75) dL_does_75 ?_
        refine go_top (y := nI (a + 1)) (nI_1 a) ?_
        refine go_iload2 C (pc := 76) dL_does_76 ?_
        refine go_iload3 C (pc := 77) dL_does_77 ?_
        refine go_iconst C (pc := 78) (v := 1) (by decide) dL_does_78 ?_
        refine go_isub C (pc := 79) dL_does_79 ?_
        refine go_top (y := nI (n - 1)) (by rw [show (1 : Int32) = nI 1 from rfl, pk_sub (show 1 ≤ n by omega)]) ?_
        refine go_ciS2 C (pc := 80) (c_L_low C.fl C.ok _ _ _ (show 0 < n - 1 by omega) (by omega)) gL_does_L_low rfl yok_L_low ⟨rfl, rfl⟩ ⟨Nat.le_of_ble_eq_true rfl, Nat.le_of_ble_eq_true rfl⟩ (Nat.le_of_ble_eq_true rfl) ⟨Nat.zero_le _, Nat.zero_le _⟩ dL_does_80 (fun r42 μ42 hc42 => ?_)
        obtain ⟨⟨c0, hc0, rfl⟩, hm42⟩ := hc42
        replace hm42 := hm42.symm
        subst hm42
        refine go_iadd C (pc := 83) dL_does_83 ?_
        refine go_iload3 C (pc := 84) dL_does_84 ?_
        refine go_irem C (pc := 85) (fun e => absurd (nI_inj3 (by omega) (by decide) (e.trans (show (0 : Int32) = nI 0 from rfl))) (by omega)) dL_does_85 ?_
        refine go_top (y := nI ((a + 1 + c0) % n)) (by rw [nI_add]; exact pk_rem (by omega) (by omega) (by omega)) ?_
        have hb : (a + 1 + c0) % n < n := Nat.mod_lt _ (by omega)
        have hne := mod_ne ha hc0
        generalize (a + 1 + c0) % n = b at hb hne ⊢
        refine go_istore5 C (pc := 86) dL_does_86 ?_
        refine go_iload1 C (pc := 88) dL_does_88 ?_
        refine go_bipush C (pc := 89) (v := 15) (by decide) dL_does_89 ?_
        refine go_iand C (pc := 91) dL_does_91 ?_
        obtain ⟨z, hz, ez⟩ := and_15 v
        refine go_top (y := nI z) ez ?_
        rcases (show z = 1 ∨ z = 2 ∨ z = 3 ∨ z = 4 ∨ z = 5 ∨ (z = 0 ∨ 6 ≤ z) by omega) with rfl | rfl | rfl | rfl | rfl | hzo
        · refine go_tabIn C (pc := 92) (off := 36) (tgt := 128) dL_does_92 (by decide) (by decide) (by decide) (by decide) ?_
          refine go_iload2 C (pc := 128) dL_does_128 ?_
          refine go_bipush C (pc := 129) (v := 7) (by decide) dL_does_129 ?_
          refine go_iand C (pc := 131) dL_does_131 ?_
          refine go_if_gt C (pc := 132) (tgt := 150) dL_does_132 (by decide) (fun h132 => ?_) (fun h132 => ?_)
          · refine go_iconst C (pc := 150) (v := 1) (by decide) dL_does_150 ?_
            refine go_goto C (pc := 151) (tgt := 155) dL_does_151 (by decide) ?_
            exact go_zret C hr dL_does_155 (Or.inr rfl) ⟨rfl, _, _, _, (by omega), H1⟩
          · refine go_iload3 C (pc := 135) dL_does_135 ?_
            refine go_bipush C (pc := 136) (v := 6) (by decide) dL_does_136 ?_
            refine go_icmp_lt C (pc := 138) (tgt := 150) dL_does_138 (by decide) (fun h138 => ?_) (fun h138 => ?_)
            · refine go_iconst C (pc := 150) (v := 1) (by decide) dL_does_150 ?_
              refine go_goto C (pc := 151) (tgt := 155) dL_does_151 (by decide) ?_
              exact go_zret C hr dL_does_155 (Or.inr rfl) ⟨rfl, _, _, _, (by omega), H1⟩
            · refine go_aload0 C (pc := 141) dL_does_141 ?_
              refine go_iload4 C (pc := 142) dL_does_142 ?_
              refine go_ciS2 C (pc := 144) (c_L_isUprooted C.fl C.ok H1 _ ha (nle (a := n) (b := 6) (by omega) (by decide) h138)) gL_does_L_isUprooted rfl yok_L_isUprooted ⟨rfl, rfl⟩ ⟨Nat.le_of_ble_eq_true rfl, Nat.le_of_ble_eq_true rfl⟩ (Nat.le_of_ble_eq_true rfl) ⟨Nat.zero_le _, Nat.zero_le _⟩ dL_does_144 (fun r45 μ45 hc45 => ?_)
              obtain ⟨rfl, H45⟩ := hc45
              refine go_if_eq C (pc := 147) (tgt := 154) dL_does_147 (by decide) (fun h147 => ?_) (fun h147 => ?_)
              · exact absurd h147 (by decide)
              · refine go_iconst C (pc := 150) (v := 1) (by decide) dL_does_150 ?_
                refine go_goto C (pc := 151) (tgt := 155) dL_does_151 (by decide) ?_
                exact go_zret C hr dL_does_155 (Or.inr rfl) ⟨rfl, _, _, _, (by omega), H45⟩
        · refine go_tabIn C (pc := 92) (off := 64) (tgt := 156) dL_does_92 (by decide) (by decide) (by decide) (by decide) ?_
          refine go_aload0 C (pc := 156) dL_does_156 ?_
          refine go_iload4 C (pc := 157) dL_does_157 ?_
          refine go_ciV1 C (pc := 159) obj_0 (q_isPropped C.fl C.ok H1 _ ha) gL_does_X7_isPropped rfl rfl yok_X7_isPropped ⟨rfl, rfl⟩ ⟨Nat.le_of_ble_eq_true rfl, Nat.le_of_ble_eq_true rfl⟩ (Nat.le_of_ble_eq_true rfl) ⟨Nat.zero_le _, Nat.zero_le _⟩ dL_does_159 (fun r47 μ47 hc47 => ?_)
          obtain ⟨rfl, H47⟩ := hc47
          refine go_istore6 C (pc := 162) dL_does_162 ?_
          refine go_aload0 C (pc := 164) dL_does_164 ?_
          refine go_iload4 C (pc := 165) dL_does_165 ?_
          refine go_ciV1 C (pc := 167) obj_0 (u_switchProp C.fl C.ok H47 _ ha) gL_does_X7_switchProp rfl rfl yok_X7_switchProp ⟨rfl, rfl⟩ ⟨Nat.le_of_ble_eq_true rfl, Nat.le_of_ble_eq_true rfl⟩ (Nat.le_of_ble_eq_true rfl) ⟨Nat.zero_le _, Nat.zero_le _⟩ dL_does_167 (fun r48 μ48 hc48 => ?_)
          obtain ⟨rfl, H48⟩ := hc48
          refine go_iload6 C (pc := 170) dL_does_170 ?_
          refine go_icmp_eq C (pc := 172) (tgt := 190) dL_does_172 (by decide) (fun h172 => ?_) (fun h172 => ?_)
          · exact absurd h172 (by cases bt pr a <;> decide)
          · refine go_aload0 C (pc := 175) dL_does_175 ?_
            refine go_iload4 C (pc := 176) dL_does_176 ?_
            refine go_ciV1 C (pc := 178) obj_0 (q_isPropped C.fl C.ok H48 _ ha) gL_does_X7_isPropped rfl rfl yok_X7_isPropped ⟨rfl, rfl⟩ ⟨Nat.le_of_ble_eq_true rfl, Nat.le_of_ble_eq_true rfl⟩ (Nat.le_of_ble_eq_true rfl) ⟨Nat.zero_le _, Nat.zero_le _⟩ dL_does_178 (fun r50 μ50 hc50 => ?_)
            obtain ⟨rfl, H50⟩ := hc50
            refine go_iload6 C (pc := 181) dL_does_181 ?_
            refine go_icmp_eq C (pc := 183) (tgt := 190) dL_does_183 (by decide) (fun h183 => ?_) (fun h183 => ?_)
            · exact absurd h183 (by rw [b_xor, bitI, b_bit (by omega), decide_eq_true rfl]; cases bt pr a <;> decide)
            · refine go_iconst C (pc := 186) (v := 1) (by decide) dL_does_186 ?_
              refine go_goto C (pc := 187) (tgt := 191) dL_does_187 (by decide) ?_
              exact go_zret C hr dL_does_191 (Or.inr rfl) ⟨rfl, _, _, _, (by omega), H50⟩
        · refine go_tabIn C (pc := 92) (off := 64) (tgt := 156) dL_does_92 (by decide) (by decide) (by decide) (by decide) ?_
          refine go_aload0 C (pc := 156) dL_does_156 ?_
          refine go_iload4 C (pc := 157) dL_does_157 ?_
          refine go_ciV1 C (pc := 159) obj_0 (q_isPropped C.fl C.ok H1 _ ha) gL_does_X7_isPropped rfl rfl yok_X7_isPropped ⟨rfl, rfl⟩ ⟨Nat.le_of_ble_eq_true rfl, Nat.le_of_ble_eq_true rfl⟩ (Nat.le_of_ble_eq_true rfl) ⟨Nat.zero_le _, Nat.zero_le _⟩ dL_does_159 (fun r52 μ52 hc52 => ?_)
          obtain ⟨rfl, H52⟩ := hc52
          refine go_istore6 C (pc := 162) dL_does_162 ?_
          refine go_aload0 C (pc := 164) dL_does_164 ?_
          refine go_iload4 C (pc := 165) dL_does_165 ?_
          refine go_ciV1 C (pc := 167) obj_0 (u_switchProp C.fl C.ok H52 _ ha) gL_does_X7_switchProp rfl rfl yok_X7_switchProp ⟨rfl, rfl⟩ ⟨Nat.le_of_ble_eq_true rfl, Nat.le_of_ble_eq_true rfl⟩ (Nat.le_of_ble_eq_true rfl) ⟨Nat.zero_le _, Nat.zero_le _⟩ dL_does_167 (fun r53 μ53 hc53 => ?_)
          obtain ⟨rfl, H53⟩ := hc53
          refine go_iload6 C (pc := 170) dL_does_170 ?_
          refine go_icmp_eq C (pc := 172) (tgt := 190) dL_does_172 (by decide) (fun h172 => ?_) (fun h172 => ?_)
          · exact absurd h172 (by cases bt pr a <;> decide)
          · refine go_aload0 C (pc := 175) dL_does_175 ?_
            refine go_iload4 C (pc := 176) dL_does_176 ?_
            refine go_ciV1 C (pc := 178) obj_0 (q_isPropped C.fl C.ok H53 _ ha) gL_does_X7_isPropped rfl rfl yok_X7_isPropped ⟨rfl, rfl⟩ ⟨Nat.le_of_ble_eq_true rfl, Nat.le_of_ble_eq_true rfl⟩ (Nat.le_of_ble_eq_true rfl) ⟨Nat.zero_le _, Nat.zero_le _⟩ dL_does_178 (fun r55 μ55 hc55 => ?_)
            obtain ⟨rfl, H55⟩ := hc55
            refine go_iload6 C (pc := 181) dL_does_181 ?_
            refine go_icmp_eq C (pc := 183) (tgt := 190) dL_does_183 (by decide) (fun h183 => ?_) (fun h183 => ?_)
            · exact absurd h183 (by rw [b_xor, bitI, b_bit (by omega), decide_eq_true rfl]; cases bt pr a <;> decide)
            · refine go_iconst C (pc := 186) (v := 1) (by decide) dL_does_186 ?_
              refine go_goto C (pc := 187) (tgt := 191) dL_does_187 (by decide) ?_
              exact go_zret C hr dL_does_191 (Or.inr rfl) ⟨rfl, _, _, _, (by omega), H55⟩
        · refine go_tabIn C (pc := 92) (off := 100) (tgt := 192) dL_does_92 (by decide) (by decide) (by decide) (by decide) ?_
          refine go_aload0 C (pc := 192) dL_does_192 ?_
          refine go_iload4 C (pc := 193) dL_does_193 ?_
          refine go_ciV1 C (pc := 195) obj_0 (q_neighbors C.fl C.ok H1 _ ha) gL_does_X7_neighbors rfl rfl yok_X7_neighbors ⟨rfl, rfl⟩ ⟨Nat.le_of_ble_eq_true rfl, Nat.le_of_ble_eq_true rfl⟩ (Nat.le_of_ble_eq_true rfl) ⟨Nat.zero_le _, Nat.zero_le _⟩ dL_does_195 (fun r57 μ57 hc57 => ?_)
          obtain ⟨rfl, H57⟩ := hc57
          refine go_iload5 C (pc := 198) dL_does_198 ?_
          refine go_ishr C (pc := 200) dL_does_200 ?_
          refine go_iconst C (pc := 201) (v := 1) (by decide) dL_does_201 ?_
          refine go_iand C (pc := 202) dL_does_202 ?_
          refine go_top (y := b2i (bt (th a) b)) (ask_b (by omega) (sm_row H.T (by omega))) ?_
          refine go_if_eq C (pc := 203) (tgt := 217) dL_does_203 (by decide) (fun h203 => ?_) (fun h203 => ?_)
          · refine go_iconst C (pc := 217) (v := 1) (by decide) dL_does_217 ?_
            refine go_goto C (pc := 218) (tgt := 222) dL_does_218 (by decide) ?_
            exact go_zret C hr dL_does_222 (Or.inr rfl) ⟨rfl, _, _, _, (by omega), H57⟩
          · refine go_aload0 C (pc := 206) dL_does_206 ?_
            refine go_iload4 C (pc := 207) dL_does_207 ?_
            refine go_iload5 C (pc := 209) dL_does_209 ?_
            refine go_ciS3 C (pc := 211) (c_L_isCut C.fl C.ok H57 _ _ ha hb hne (bneg h203)) gL_does_L_isCut rfl yok_L_isCut ⟨rfl, rfl⟩ ⟨Nat.le_of_ble_eq_true rfl, Nat.le_of_ble_eq_true rfl⟩ (Nat.le_of_ble_eq_true rfl) ⟨Nat.zero_le _, Nat.zero_le _⟩ dL_does_211 (fun r59 μ59 hc59 => ?_)
            obtain ⟨rfl, H59⟩ := hc59
            refine go_if_eq C (pc := 214) (tgt := 221) dL_does_214 (by decide) (fun h214 => ?_) (fun h214 => ?_)
            · exact absurd h214 (by decide)
            · refine go_iconst C (pc := 217) (v := 1) (by decide) dL_does_217 ?_
              refine go_goto C (pc := 218) (tgt := 222) dL_does_218 (by decide) ?_
              exact go_zret C hr dL_does_222 (Or.inr rfl) ⟨rfl, _, _, _, (by omega), H59⟩
        · refine go_tabIn C (pc := 92) (off := 100) (tgt := 192) dL_does_92 (by decide) (by decide) (by decide) (by decide) ?_
          refine go_aload0 C (pc := 192) dL_does_192 ?_
          refine go_iload4 C (pc := 193) dL_does_193 ?_
          refine go_ciV1 C (pc := 195) obj_0 (q_neighbors C.fl C.ok H1 _ ha) gL_does_X7_neighbors rfl rfl yok_X7_neighbors ⟨rfl, rfl⟩ ⟨Nat.le_of_ble_eq_true rfl, Nat.le_of_ble_eq_true rfl⟩ (Nat.le_of_ble_eq_true rfl) ⟨Nat.zero_le _, Nat.zero_le _⟩ dL_does_195 (fun r61 μ61 hc61 => ?_)
          obtain ⟨rfl, H61⟩ := hc61
          refine go_iload5 C (pc := 198) dL_does_198 ?_
          refine go_ishr C (pc := 200) dL_does_200 ?_
          refine go_iconst C (pc := 201) (v := 1) (by decide) dL_does_201 ?_
          refine go_iand C (pc := 202) dL_does_202 ?_
          refine go_top (y := b2i (bt (th a) b)) (ask_b (by omega) (sm_row H.T (by omega))) ?_
          refine go_if_eq C (pc := 203) (tgt := 217) dL_does_203 (by decide) (fun h203 => ?_) (fun h203 => ?_)
          · refine go_iconst C (pc := 217) (v := 1) (by decide) dL_does_217 ?_
            refine go_goto C (pc := 218) (tgt := 222) dL_does_218 (by decide) ?_
            exact go_zret C hr dL_does_222 (Or.inr rfl) ⟨rfl, _, _, _, (by omega), H61⟩
          · refine go_aload0 C (pc := 206) dL_does_206 ?_
            refine go_iload4 C (pc := 207) dL_does_207 ?_
            refine go_iload5 C (pc := 209) dL_does_209 ?_
            refine go_ciS3 C (pc := 211) (c_L_isCut C.fl C.ok H61 _ _ ha hb hne (bneg h203)) gL_does_L_isCut rfl yok_L_isCut ⟨rfl, rfl⟩ ⟨Nat.le_of_ble_eq_true rfl, Nat.le_of_ble_eq_true rfl⟩ (Nat.le_of_ble_eq_true rfl) ⟨Nat.zero_le _, Nat.zero_le _⟩ dL_does_211 (fun r63 μ63 hc63 => ?_)
            obtain ⟨rfl, H63⟩ := hc63
            refine go_if_eq C (pc := 214) (tgt := 221) dL_does_214 (by decide) (fun h214 => ?_) (fun h214 => ?_)
            · exact absurd h214 (by decide)
            · refine go_iconst C (pc := 217) (v := 1) (by decide) dL_does_217 ?_
              refine go_goto C (pc := 218) (tgt := 222) dL_does_218 (by decide) ?_
              exact go_zret C hr dL_does_222 (Or.inr rfl) ⟨rfl, _, _, _, (by omega), H63⟩
        · refine go_tabOut C (pc := 92) (tgt := 223) dL_does_92 (sw_out z (by omega) hzo) (by decide) ?_
          refine go_aload0 C (pc := 223) dL_does_223 ?_
          refine go_iload4 C (pc := 224) dL_does_224 ?_
          refine go_ciV1 C (pc := 226) obj_0 (q_neighbors C.fl C.ok H1 _ ha) gL_does_X7_neighbors rfl rfl yok_X7_neighbors ⟨rfl, rfl⟩ ⟨Nat.le_of_ble_eq_true rfl, Nat.le_of_ble_eq_true rfl⟩ (Nat.le_of_ble_eq_true rfl) ⟨Nat.zero_le _, Nat.zero_le _⟩ dL_does_226 (fun r65 μ65 hc65 => ?_)
          obtain ⟨rfl, H65⟩ := hc65
          refine go_iload5 C (pc := 229) dL_does_229 ?_
          refine go_ishr C (pc := 231) dL_does_231 ?_
          refine go_iconst C (pc := 232) (v := 1) (by decide) dL_does_232 ?_
          refine go_iand C (pc := 233) dL_does_233 ?_
          refine go_top (y := b2i (bt (th a) b)) (ask_b (by omega) (sm_row H.T (by omega))) ?_
          refine go_iconst C (pc := 234) (v := 1) (by decide) dL_does_234 ?_
          refine go_icmp_eq C (pc := 235) (tgt := 249) dL_does_235 (by decide) (fun h235 => ?_) (fun h235 => ?_)
          · refine go_iconst C (pc := 249) (v := 1) (by decide) dL_does_249 ?_
            refine go_goto C (pc := 250) (tgt := 254) dL_does_250 (by decide) ?_
            exact go_zret C hr dL_does_254 (Or.inr rfl) ⟨rfl, _, _, _, (by omega), H65⟩
          · refine go_aload0 C (pc := 238) dL_does_238 ?_
            refine go_iload4 C (pc := 239) dL_does_239 ?_
            refine go_iload5 C (pc := 241) dL_does_241 ?_
            refine go_ciS3 C (pc := 243) (c_L_isBound C.fl C.ok H65 _ _ ha hb hne (bn1 h235)) gL_does_L_isBound rfl yok_L_isBound ⟨rfl, rfl⟩ ⟨Nat.le_of_ble_eq_true rfl, Nat.le_of_ble_eq_true rfl⟩ (Nat.le_of_ble_eq_true rfl) ⟨Nat.zero_le _, Nat.zero_le _⟩ dL_does_243 (fun r67 μ67 hc67 => ?_)
            obtain ⟨rfl, H67⟩ := hc67
            refine go_if_eq C (pc := 246) (tgt := 253) dL_does_246 (by decide) (fun h246 => ?_) (fun h246 => ?_)
            · exact absurd h246 (by decide)
            · refine go_iconst C (pc := 249) (v := 1) (by decide) dL_does_249 ?_
              refine go_goto C (pc := 250) (tgt := 254) dL_does_250 (by decide) ?_
              exact go_zret C hr dL_does_254 (Or.inr rfl) ⟨rfl, _, _, _, (by omega), H67⟩
      · have hlt : n < 16 := by
          rcases Nat.lt_or_ge n 16 with q | q
          · exact q
          · exact absurd (show (16 : Int32) ≤ nI n from nI_le (a := 16) q (by omega)) h20
        refine go_aload0 C (pc := 23) dL_does_23 ?_
        refine go_ciV0 C (pc := 24) obj_0 (u_plant C.fl C.ok H1 hlt) gL_does_X7_plant rfl rfl yok_X7_plant ⟨rfl, rfl⟩ ⟨Nat.le_of_ble_eq_true rfl, Nat.le_of_ble_eq_true rfl⟩ (Nat.le_of_ble_eq_true rfl) ⟨Nat.zero_le _, Nat.zero_le _⟩ dL_does_24 (fun r69 μ69 hc69 => ?_)
        obtain ⟨rfl, H69⟩ := hc69
        refine go_iload3 C (pc := 27) dL_does_27 ?_
        refine go_icmp_ne C (pc := 28) (tgt := 61) dL_does_28 (by decide) (fun h28 => ?_) (fun h28 => ?_)
        · exact absurd (rfl) h28
        · refine go_aload0 C (pc := 31) dL_does_31 ?_
          refine go_ciV0 C (pc := 32) obj_0 (q_plantCount C.fl C.ok H69) gL_does_X7_plantCount rfl rfl yok_X7_plantCount ⟨rfl, rfl⟩ ⟨Nat.le_of_ble_eq_true rfl, Nat.le_of_ble_eq_true rfl⟩ (Nat.le_of_ble_eq_true rfl) ⟨Nat.zero_le _, Nat.zero_le _⟩ dL_does_32 (fun r71 μ71 hc71 => ?_)
          obtain ⟨rfl, H71⟩ := hc71
          refine go_iload3 C (pc := 35) dL_does_35 ?_
          refine go_iconst C (pc := 36) (v := 1) (by decide) dL_does_36 ?_
          refine go_iadd C (pc := 37) dL_does_37 ?_
          refine go_icmp_ne C (pc := 38) (tgt := 61) dL_does_38 (by decide) (fun h38 => ?_) (fun h38 => ?_)
          · exact absurd (by rw [nI_1]) h38
          · refine go_aload0 C (pc := 41) dL_does_41 ?_
            refine go_iload3 C (pc := 42) dL_does_42 ?_
            refine go_ciV1 C (pc := 43) obj_0 (q_neighbors C.fl C.ok H71 _ (Nat.lt_succ_self n)) gL_does_X7_neighbors rfl rfl yok_X7_neighbors ⟨rfl, rfl⟩ ⟨Nat.le_of_ble_eq_true rfl, Nat.le_of_ble_eq_true rfl⟩ (Nat.le_of_ble_eq_true rfl) ⟨Nat.zero_le _, Nat.zero_le _⟩ dL_does_43 (fun r73 μ73 hc73 => ?_)
            obtain ⟨rfl, H73⟩ := hc73
            refine go_if_ne C (pc := 46) (tgt := 61) dL_does_46 (by decide) (fun h46 => ?_) (fun h46 => ?_)
            · exact absurd (nb_0 H.T hlt) h46
            · refine go_aload0 C (pc := 49) dL_does_49 ?_
              refine go_iload3 C (pc := 50) dL_does_50 ?_
              refine go_ciV1 C (pc := 51) obj_0 (q_isPropped C.fl C.ok H73 _ (Nat.lt_succ_self n)) gL_does_X7_isPropped rfl rfl yok_X7_isPropped ⟨rfl, rfl⟩ ⟨Nat.le_of_ble_eq_true rfl, Nat.le_of_ble_eq_true rfl⟩ (Nat.le_of_ble_eq_true rfl) ⟨Nat.zero_le _, Nat.zero_le _⟩ dL_does_51 (fun r75 μ75 hc75 => ?_)
              obtain ⟨rfl, H75⟩ := hc75
              refine go_if_ne C (pc := 54) (tgt := 61) dL_does_54 (by decide) (fun h54 => ?_) (fun h54 => ?_)
              · exact absurd (by rw [pr_n H.T]; rfl) h54
              · refine go_iconst C (pc := 57) (v := 1) (by decide) dL_does_57 ?_
                refine go_goto C (pc := 58) (tgt := 62) dL_does_58 (by decide) ?_
                exact go_zret C hr dL_does_62 (Or.inr rfl) ⟨rfl, _, _, _, (by omega), H75⟩

