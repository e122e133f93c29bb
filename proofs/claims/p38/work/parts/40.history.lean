/-! ===== Thicket.pullOut; ThornCores$History ===== -/
/-- rows behind j one place ahead, the first i places of it -/
def shF (th : Nat → Int32) (j i : Nat) : Nat → Int32 := fun k => if j ≤ k ∧ k < i then (if k + 1 < 16 then th (k + 1) else 0) else th k
theorem shF_0 (th : Nat → Int32) (j : Nat) : shF th j j = th := by
  funext k; unfold shF; rw [if_neg (by omega)]
theorem shF_s {th : Nat → Int32} {j i : Nat} (h : j ≤ i) : upd (shF th j i) i (if i + 1 < 16 then th (i + 1) else 0) = shF th j (i + 1) := by
  funext k
  unfold upd shF
  by_cases e : k = i
  · subst e; rw [if_pos rfl, if_pos (show j ≤ k ∧ k < k + 1 by omega)]
  · rw [if_neg e]
    by_cases q : j ≤ k ∧ k < i
    · rw [if_pos q, if_pos (show j ≤ k ∧ k < i + 1 by omega)]
    · rw [if_neg q, if_neg (by omega)]
def clF (f : Nat → Int32) (x : Int32) (i : Nat) : Nat → Int32 := fun k => if k < i then closeG (f k) x else f k
theorem clF_0 (f : Nat → Int32) (x : Int32) : clF f x 0 = f := by funext k; simp [clF]
theorem clF_s (f : Nat → Int32) (x : Int32) (i : Nat) : upd (clF f x i) i (closeG (clF f x i i) x) = clF f x (i + 1) := by
  funext k
  unfold upd clF
  by_cases e : k = i
  · subst e; simp
  · rw [if_neg e]
    by_cases q : k < i
    · rw [if_pos q, if_pos (by omega)]
    · rw [if_neg q, if_neg (by omega)]
/-- the thorns without plant j -/
def pullT (th : Nat → Int32) (j : Nat) : Nat → Int32 := clF (shF th j 16) (nI j) 16
theorem yok_X5_pullOut : yOK yX5_pullOut 1 := by unfold yOK; decide +kernel
theorem hi_X5_pullOut_RX5 : ∀ w ∈ wsX50, w ∈ wsX5_pullOut := by decide +kernel
theorem lk_X5_pullOut_15 : Cond.fieldLink RX5 15 "ThornCores$Thicket" "props" "I" ∈ wsX5_pullOut := by decide +kernel
theorem lk_X5_pullOut_9 : Cond.fieldLink RX5 9 "ThornCores$Thicket" "count" "I" ∈ wsX5_pullOut := by decide +kernel
theorem lk_X5_pullOut_23 : Cond.fieldLink RX5 23 "ThornCores$Thicket" "thorns" "LThornCores$Row;" ∈ wsX5_pullOut := by decide +kernel
set_option maxRecDepth 20000 in
set_option maxHeartbeats 4000000 in
theorem c_X5_pullOut {l : Launch} {D : va_G} {ad : Nat → Nat} {cI cL : ClassId} (hfl : l.flags = flags0) (hok : adOK ad) (μ : Mem) (j : Nat) {n : Nat} (hc : μ 1 0 = nI n) (hn : n ≤ 16) (hj : j < n) : CtV l D ad cI cL yX5_pullOut wsX5_pullOut (RM 2 42) [.ref (ad 1), .int (nI j)] μ (fun (μ' : Mem) => μ' = mset (mset μ 3 (pullT (μ 3) j)) 1 (upd (upd (μ 1) 1 (closeG (μ 1 1) (nI j))) 0 (nI n - 1))) := by
  refine ct_v (cc := cX5_pullOut) (maxL := 3) (own := RX5) hfl hok (by decide) rfl rfl rfl (Nat.le_of_ble_eq_true rfl) (fun p e s m below meth c C hr => ?_)
  refine go_lv (lv' := [some (.ref (ad 1)), some (.int (nI j)), none]) rfl ?_
  have key2 : ∀ i, i ≤ 16 → Go p l e (headSpec wsX5_pullOut (RM 2 42)).room s m ([.ref (ad 1), .int (nI j)] : List Value).toArray below meth c 0 0 (MQ below (va_Qv (fun (μ' : Mem) => μ' = mset (mset μ 3 (pullT (μ 3) j)) 1 (upd (upd (μ 1) 1 (closeG (μ 1 1) (nI j))) 0 (nI n - 1))) (fun μ' t => PreW D ad cI cL μ' t) (AW ad)) ([.ref (ad 1), .int (nI j)] : List Value).toArray s 0 0 (AW ad)) (AW ad) D ad cI cL 3 55 [some (.ref (ad 1)), some (.int (nI j)), some (.int (nI i))] [] (mset μ 3 (clF (shF (μ 3) j 16) (nI j) i)) := by
    refine dn_ind ?_ ?_
    · refine go_iload2 C (pc := 55) dX5_pullOut_55 ?_
      refine go_bipush C (pc := 56) (v := 16) (by decide) dX5_pullOut_56 ?_
      refine go_icmp_ge C (pc := 58) (tgt := 87) dX5_pullOut_58 (by decide) (fun h58 => ?_) (fun h58 => ?_)
      · refine go_aload0 C (pc := 87) dX5_pullOut_87 ?_
        refine go_aload0 C (pc := 88) dX5_pullOut_88 ?_
        refine go_get C (pc := 89) 1 (by decide) rfl rfl 1 (by decide) rfl rfl hi_X5_pullOut_RX5 lk_X5_pullOut_15 dX5_pullOut_89 ?_
        refine go_iload1 C (pc := 92) dX5_pullOut_92 ?_
        refine go_ciS2 C (pc := 93) (c_X5_closeGap C.fl C.ok _ _ _ ) gX5_pullOut_X5_closeGap rfl yok_X5_closeGap ⟨rfl, rfl⟩ ⟨Nat.le_of_ble_eq_true rfl, Nat.le_of_ble_eq_true rfl⟩ (Nat.le_of_ble_eq_true rfl) ⟨Nat.zero_le _, Nat.zero_le _⟩ dX5_pullOut_93 (fun r2 μ2 hc2 => ?_)
        obtain ⟨rfl, hm2⟩ := hc2
        replace hm2 := hm2.symm
        subst hm2
        refine go_top (y := closeG (μ 1 1) (nI j)) rfl ?_
        refine go_put C (pc := 96) 1 (by decide) rfl rfl 1 (by decide) rfl hi_X5_pullOut_RX5 lk_X5_pullOut_15 tyX5_ok nmX5 rfl rfl rfl (Nat.le_of_ble_eq_true rfl) rfl dX5_pullOut_96 ?_
        refine go_aload0 C (pc := 99) dX5_pullOut_99 ?_
        refine go_dup C (pc := 100) rfl dX5_pullOut_100 ?_
        refine go_get C (pc := 101) 1 (by decide) rfl rfl 0 (by decide) rfl rfl hi_X5_pullOut_RX5 lk_X5_pullOut_9 dX5_pullOut_101 ?_
        refine go_iconst C (pc := 104) (v := 1) (by decide) dX5_pullOut_104 ?_
        refine go_isub C (pc := 105) dX5_pullOut_105 ?_
        refine go_top (y := nI n - 1) (congrArg (fun z => z - 1) hc) ?_
        refine go_put C (pc := 106) 1 (by decide) rfl rfl 0 (by decide) rfl hi_X5_pullOut_RX5 lk_X5_pullOut_9 tyX5_ok nmX5 rfl rfl rfl (Nat.le_of_ble_eq_true rfl) rfl dX5_pullOut_106 ?_
        exact go_vret C hr dX5_pullOut_109 (by exact mset_mset (mset μ 3 (pullT (μ 3) j)) 1 _ _)
      · exact absurd (cnt_le nI16 (Nat.le_refl _) (by omega)) h58
    · intro i hi ih
      refine go_iload2 C (pc := 55) dX5_pullOut_55 ?_
      refine go_bipush C (pc := 56) (v := 16) (by decide) dX5_pullOut_56 ?_
      refine go_icmp_ge C (pc := 58) (tgt := 87) dX5_pullOut_58 (by decide) (fun h58 => ?_) (fun h58 => ?_)
      · exact absurd h58 (cnt_nle nI16 hi (by omega))
      · refine go_aload0 C (pc := 61) dX5_pullOut_61 ?_
        refine go_get C (pc := 62) 1 (by decide) rfl rfl 2 (by decide) rfl rfl hi_X5_pullOut_RX5 lk_X5_pullOut_23 dX5_pullOut_62 ?_
        refine go_iload2 C (pc := 65) dX5_pullOut_65 ?_
        refine go_aload0 C (pc := 66) dX5_pullOut_66 ?_
        refine go_get C (pc := 67) 1 (by decide) rfl rfl 2 (by decide) rfl rfl hi_X5_pullOut_RX5 lk_X5_pullOut_23 dX5_pullOut_67 ?_
        refine go_iload2 C (pc := 70) dX5_pullOut_70 ?_
        refine go_ciV1 C (pc := 71) obj_2 (c_X3_atN C.fl C.ok _ 2 16 row_2 _  (by omega)) gX5_pullOut_X3_at rfl rfl yok_X3_at ⟨rfl, rfl⟩ ⟨Nat.le_of_ble_eq_true rfl, Nat.le_of_ble_eq_true rfl⟩ (Nat.le_of_ble_eq_true rfl) ⟨Nat.zero_le _, Nat.zero_le _⟩ dX5_pullOut_71 (fun r4 μ4 hc4 => ?_)
        obtain ⟨rfl, hm4⟩ := hc4
        replace hm4 := hm4.symm
        subst hm4
        refine go_top (y := clF (shF (μ 3) j 16) (nI j) i i) rfl ?_
        refine go_iload1 C (pc := 74) dX5_pullOut_74 ?_
        refine go_ciS2 C (pc := 75) (c_X5_closeGap C.fl C.ok _ _ _ ) gX5_pullOut_X5_closeGap rfl yok_X5_closeGap ⟨rfl, rfl⟩ ⟨Nat.le_of_ble_eq_true rfl, Nat.le_of_ble_eq_true rfl⟩ (Nat.le_of_ble_eq_true rfl) ⟨Nat.zero_le _, Nat.zero_le _⟩ dX5_pullOut_75 (fun r5 μ5 hc5 => ?_)
        obtain ⟨rfl, hm5⟩ := hc5
        replace hm5 := hm5.symm
        subst hm5
        refine go_cvV2 C (pc := 78) obj_2 (c_X3_putN C.fl C.ok _ 2 16 row_2 _ _  (by omega)) gX5_pullOut_X3_put rfl rfl yok_X3_put ⟨rfl, rfl⟩ ⟨Nat.le_of_ble_eq_true rfl, Nat.le_of_ble_eq_true rfl⟩ (Nat.le_of_ble_eq_true rfl) ⟨Nat.zero_le _, Nat.zero_le _⟩ dX5_pullOut_78 (fun μ6 hc6 => ?_)
        replace hc6 := hc6.symm
        subst hc6
        refine go_iinc2 C (pc := 81) (v := 1) dX5_pullOut_81 (by decide) ?_
        refine go_goto C (pc := 84) (tgt := 55) dX5_pullOut_84 (by decide) ?_
        exact go_lv (by rw [nI_1]) (go_mem ((mset_mset μ 3 _ _).trans (congrArg (mset μ 3) (clF_s (shF (μ 3) j 16) (nI j) i))) ih)
  have key : ∀ i, i ≤ 16 → j ≤ i → Go p l e (headSpec wsX5_pullOut (RM 2 42)).room s m ([.ref (ad 1), .int (nI j)] : List Value).toArray below meth c 0 0 (MQ below (va_Qv (fun (μ' : Mem) => μ' = mset (mset μ 3 (pullT (μ 3) j)) 1 (upd (upd (μ 1) 1 (closeG (μ 1 1) (nI j))) 0 (nI n - 1))) (fun μ' t => PreW D ad cI cL μ' t) (AW ad)) ([.ref (ad 1), .int (nI j)] : List Value).toArray s 0 0 (AW ad)) (AW ad) D ad cI cL 3 11 [some (.ref (ad 1)), some (.int (nI j)), some (.int (nI i))] [] (mset μ 3 (shF (μ 3) j i)) := by
    refine dn_ind ?_ ?_
    · intro _
      refine go_iload2 C (pc := 11) dX5_pullOut_11 ?_
      refine go_bipush C (pc := 12) (v := 16) (by decide) dX5_pullOut_12 ?_
      refine go_icmp_ge C (pc := 14) (tgt := 53) dX5_pullOut_14 (by decide) (fun h14 => ?_) (fun h14 => ?_)
      · refine go_iconst C (pc := 53) (v := 0) (by decide) dX5_pullOut_53 ?_
        refine go_istore2 C (pc := 54) dX5_pullOut_54 ?_
        exact go_lv (by rw [nI_0]) (go_mem (by rw [clF_0]) (key2 0 (Nat.zero_le _)))
      · exact absurd (cnt_le nI16 (Nat.le_refl _) (by omega)) h14
    · intro i hi ih hji
      refine go_iload2 C (pc := 11) dX5_pullOut_11 ?_
      refine go_bipush C (pc := 12) (v := 16) (by decide) dX5_pullOut_12 ?_
      refine go_icmp_ge C (pc := 14) (tgt := 53) dX5_pullOut_14 (by decide) (fun h14 => ?_) (fun h14 => ?_)
      · exact absurd h14 (cnt_nle nI16 hi (by omega))
      · refine go_aload0 C (pc := 17) dX5_pullOut_17 ?_
        refine go_get C (pc := 18) 1 (by decide) rfl rfl 2 (by decide) rfl rfl hi_X5_pullOut_RX5 lk_X5_pullOut_23 dX5_pullOut_18 ?_
        refine go_iload2 C (pc := 21) dX5_pullOut_21 ?_
        refine go_iload2 C (pc := 22) dX5_pullOut_22 ?_
        refine go_iconst C (pc := 23) (v := 1) (by decide) dX5_pullOut_23 ?_
        refine go_iadd C (pc := 24) dX5_pullOut_24 ?_
        refine go_top (y := nI (i + 1)) (nI_1 i) ?_
        refine go_bipush C (pc := 25) (v := 16) (by decide) dX5_pullOut_25 ?_
        refine go_icmp_ge C (pc := 27) (tgt := 43) dX5_pullOut_27 (by decide) (fun h27 => ?_) (fun h27 => ?_)
        · have hge : 16 ≤ i + 1 := (nI_leI (by omega) (by omega)).mp (by rw [← nI16]; exact h27)
          refine go_iconst C (pc := 43) (v := 0) (by decide) dX5_pullOut_43 ?_
          refine go_cvV2 C (pc := 44) obj_2 (c_X3_putN C.fl C.ok _ 2 16 row_2 _ _  (by omega)) gX5_pullOut_X3_put rfl rfl yok_X3_put ⟨rfl, rfl⟩ ⟨Nat.le_of_ble_eq_true rfl, Nat.le_of_ble_eq_true rfl⟩ (Nat.le_of_ble_eq_true rfl) ⟨Nat.zero_le _, Nat.zero_le _⟩ dX5_pullOut_44 (fun μ10 hc10 => ?_)
          replace hc10 := hc10.symm
          subst hc10
          refine go_iinc2 C (pc := 47) (v := 1) dX5_pullOut_47 (by decide) ?_
          refine go_goto C (pc := 50) (tgt := 11) dX5_pullOut_50 (by decide) ?_
          exact go_lv (by rw [nI_1]) (go_mem ((mset_mset μ 3 _ _).trans (congrArg (mset μ 3) (by rw [← shF_s hji, if_neg (by omega)]; rfl))) (ih (by omega)))
        · have hlt : i + 1 < 16 := Nat.not_le.mp (fun q => h27 (cnt_le nI16 q (by omega)))
          refine go_aload0 C (pc := 30) dX5_pullOut_30 ?_
          refine go_get C (pc := 31) 1 (by decide) rfl rfl 2 (by decide) rfl rfl hi_X5_pullOut_RX5 lk_X5_pullOut_23 dX5_pullOut_31 ?_
          refine go_iload2 C (pc := 34) dX5_pullOut_34 ?_
          refine go_iconst C (pc := 35) (v := 1) (by decide) dX5_pullOut_35 ?_
          refine go_iadd C (pc := 36) dX5_pullOut_36 ?_
          refine go_top (y := nI (i + 1)) (nI_1 i) ?_
          refine go_ciV1 C (pc := 37) obj_2 (c_X3_atN C.fl C.ok _ 2 16 row_2 _  (by omega)) gX5_pullOut_X3_at rfl rfl yok_X3_at ⟨rfl, rfl⟩ ⟨Nat.le_of_ble_eq_true rfl, Nat.le_of_ble_eq_true rfl⟩ (Nat.le_of_ble_eq_true rfl) ⟨Nat.zero_le _, Nat.zero_le _⟩ dX5_pullOut_37 (fun r11 μ11 hc11 => ?_)
          obtain ⟨rfl, hm11⟩ := hc11
          replace hm11 := hm11.symm
          subst hm11
          refine go_top (y := μ 3 (i + 1)) (by show shF (μ 3) j i (i + 1) = _; unfold shF; rw [if_neg (by omega)]) ?_
          refine go_top (y := μ 3 (i + 1)) rfl ?_
          refine go_goto C (pc := 40) (tgt := 44) dX5_pullOut_40 (by decide) ?_
          refine go_cvV2 C (pc := 44) obj_2 (c_X3_putN C.fl C.ok _ 2 16 row_2 _ _  (by omega)) gX5_pullOut_X3_put rfl rfl yok_X3_put ⟨rfl, rfl⟩ ⟨Nat.le_of_ble_eq_true rfl, Nat.le_of_ble_eq_true rfl⟩ (Nat.le_of_ble_eq_true rfl) ⟨Nat.zero_le _, Nat.zero_le _⟩ dX5_pullOut_44 (fun μ12 hc12 => ?_)
          replace hc12 := hc12.symm
          subst hc12
          refine go_iinc2 C (pc := 47) (v := 1) dX5_pullOut_47 (by decide) ?_
          refine go_goto C (pc := 50) (tgt := 11) dX5_pullOut_50 (by decide) ?_
          exact go_lv (by rw [nI_1]) (go_mem ((mset_mset μ 3 _ _).trans (congrArg (mset μ 3) (by rw [← shF_s hji, if_pos hlt]; rfl))) (ih (by omega)))
  refine go_aload0 C (pc := 0) dX5_pullOut_0 ?_
  refine go_iload1 C (pc := 1) dX5_pullOut_1 ?_
  refine go_ciV1 C (pc := 2) obj_1 (c_X5_hasN C.fl C.ok _ _ hc hn (by omega)) gX5_pullOut_X5_has rfl rfl yok_X5_has ⟨rfl, rfl⟩ ⟨Nat.le_of_ble_eq_true rfl, Nat.le_of_ble_eq_true rfl⟩ (Nat.le_of_ble_eq_true rfl) ⟨Nat.zero_le _, Nat.zero_le _⟩ dX5_pullOut_2 (fun r13 μ13 hc13 => ?_)
  obtain ⟨rfl, hm13⟩ := hc13
  replace hm13 := hm13.symm
  subst hm13
  refine go_if_ne C (pc := 5) (tgt := 9) dX5_pullOut_5 (by decide) (fun h5 => ?_) (fun h5 => ?_)
  · refine go_iload1 C (pc := 9) dX5_pullOut_9 ?_
    refine go_istore2 C (pc := 10) dX5_pullOut_10 ?_
    exact go_mem (by rw [shF_0, mset_id]) (key j (by omega) (Nat.le_refl _))
  · exact go_vret C hr dX5_pullOut_8 (by rw [b2i_0, decide_eq_false_iff_not] at h5; exact absurd hj h5)

theorem yok_X5_writeTo : yOK yX5_writeTo 2 := by unfold yOK; decide +kernel
theorem ring {o a : Nat} (ho : o < 6) (ha : a ≤ 6) : (nI o + nI a - (nI o + nI a) / 6 * 6) * 18 = nI ((o + a) % 6 * 18) := by
  rw [nI_add, show (6 : Int32) = nI 6 from by decide +kernel, show (18 : Int32) = nI 18 from by decide +kernel, pk_rem (by omega) (by omega) (by omega), pk_mul]
theorem ring1 {o : Nat} (ho : o < 6) : nI o + 1 - (nI o + 1) / 6 * 6 = nI ((o + 1) % 6) := by
  rw [nI_1, show (6 : Int32) = nI 6 from by decide +kernel, pk_rem (by omega) (by omega) (by omega)]
/-- the latest m states, h t k: of the t-th the k-th number; in a ring that begins at o -/
def CH (μ : Mem) (m : Nat) (h : Nat → Nat → Int32) : Prop := ∃ o, o < 6 ∧ μ 7 1 = nI o ∧ μ 7 2 = nI m ∧ m ≤ 6 ∧ ∀ t, t < m → ∀ k, k < 18 → μ 9 ((o + t) % 6 * 18 + k) = h t k
/-- a state as 18 numbers -/
def stV (c pr : Int32) (th : Nat → Int32) : Nat → Int32 := fun k => if k = 0 then c else if k = 1 then pr else th (k - 2)
def remM (m : Nat) : Nat := if m = 6 then 6 else m + 1
def remH (m : Nat) (h : Nat → Nat → Int32) (v : Nat → Int32) : Nat → Nat → Int32 := fun t => if m = 6 then (if t < 5 then h (t + 1) else v) else (if t = m then v else h t)
theorem wr_in {g : Nat → Int32} {z k : Nat} {c pr : Int32} {th : Nat → Int32} (hk : k < 18) : wrS g z c pr th 16 (z + k) = stV c pr th k := by
  unfold wrS stV
  by_cases h0 : k = 0
  · subst h0; simp
  · rw [if_neg (by omega), if_neg h0]
    by_cases h1 : k = 1
    · subst h1; simp
    · rw [if_neg (by omega), if_neg h1, if_pos (by omega), show z + k - (z + 2) = k - 2 by omega]
theorem wr_out {g : Nat → Int32} {z k : Nat} {c pr : Int32} {th : Nat → Int32} (hk : k < z ∨ z + 18 ≤ k) : wrS g z c pr th 16 k = g k := by
  unfold wrS
  rw [if_neg (by omega), if_neg (by omega), if_neg (by omega)]
theorem yok_X2_start : yOK yX2_start 1 := by unfold yOK; decide +kernel
theorem hi_X2_start_RX2 : ∀ w ∈ wsX20, w ∈ wsX2_start := by decide +kernel
theorem lk_X2_start_22 : Cond.fieldLink RX2 22 "ThornCores$History" "oldest" "I" ∈ wsX2_start := by decide +kernel
set_option maxRecDepth 20000 in
set_option maxHeartbeats 4000000 in
theorem c_X2_start {l : Launch} {D : va_G} {ad : Nat → Nat} {cI cL : ClassId} (hfl : l.flags = flags0) (hok : adOK ad) (μ : Mem) (o a : Nat) (ho : o < 6) (ha : a ≤ 6) (h7 : μ 7 1 = nI o) : CtI l D ad cI cL yX2_start wsX2_start (RM 0 0) [.ref (ad 7), .int (nI a)] μ (fun (r : Int32) (μ' : Mem) => r = nI ((o + a) % 6 * 18) ∧ μ' = μ) := by
  refine ct_i (cc := cX2_start) (maxL := 2) (own := RX2) .int hfl hok (by decide) rfl rfl rfl (Nat.le_of_ble_eq_true rfl) (fun p e s m below meth c C hr => ?_)
  refine go_lv (lv' := [some (.ref (ad 7)), some (.int (nI a))]) rfl ?_
  refine go_aload0 C (pc := 0) dX2_start_0 ?_
  refine go_get C (pc := 1) 7 (by decide) rfl rfl 1 (by decide) rfl rfl hi_X2_start_RX2 lk_X2_start_22 dX2_start_1 ?_
  refine go_iload1 C (pc := 4) dX2_start_4 ?_
  refine go_iadd C (pc := 5) dX2_start_5 ?_
  refine go_bipush C (pc := 6) (v := 6) (by decide) dX2_start_6 ?_
  refine go_irem C (pc := 8) (by decide) dX2_start_8 ?_
  refine go_bipush C (pc := 9) (v := 18) (by decide) dX2_start_9 ?_
  refine go_imul C (pc := 11) dX2_start_11 ?_
  exact go_iret C hr dX2_start_12 (⟨by rw [h7, ring ho ha], rfl⟩)

theorem mset_comm (μ : Mem) {j k : Nat} (f g : Nat → Int32) (h : j ≠ k) : mset (mset μ j f) k g = mset (mset μ k g) j f := by
  funext x
  unfold mset
  by_cases a : x = k
  · rw [if_pos a, if_neg (by omega), if_pos a]
  · rw [if_neg a, if_neg a]
theorem mset_79 (μ : Mem) (f g : Nat → Int32) : mset (mset μ 9 g) 7 f = mset (mset μ 7 f) 9 g := mset_comm μ g f (by decide)
theorem mset_7779 (μ : Mem) (f1 f2 f3 g : Nat → Int32) : mset (mset (mset (mset μ 7 f1) 7 f2) 9 g) 7 f3 = mset (mset μ 7 f3) 9 g := by
  rw [mset_comm _ g f3 (by decide), mset_mset, mset_mset]
theorem yok_X2_remember : yOK yX2_remember 1 := by unfold yOK; decide +kernel
theorem hi_X2_remember_RX2 : ∀ w ∈ wsX20, w ∈ wsX2_remember := by decide +kernel
theorem lk_X2_remember_26 : Cond.fieldLink RX2 26 "ThornCores$History" "size" "I" ∈ wsX2_remember := by decide +kernel
theorem lk_X2_remember_16 : Cond.fieldLink RX2 16 "ThornCores$History" "kept" "LThornCores$Row;" ∈ wsX2_remember := by decide +kernel
theorem lk_X2_remember_22 : Cond.fieldLink RX2 22 "ThornCores$History" "oldest" "I" ∈ wsX2_remember := by decide +kernel
set_option maxRecDepth 20000 in
set_option maxHeartbeats 4000000 in
theorem c_X2_remember {l : Launch} {D : va_G} {ad : Nat → Nat} {cI cL : ClassId} (hfl : l.flags = flags0) (hok : adOK ad) (μ : Mem) (w : Nat) (h : Nat → Nat → Int32) (hC : CH μ w h) : CtV l D ad cI cL yX2_remember wsX2_remember (RM 2 45) [.ref (ad 7), .ref (ad 1)] μ (fun (μ' : Mem) => (∃ f g, μ' = mset (mset μ 7 f) 9 g) ∧ CH μ' (remM w) (remH w h (stV (μ 1 0) (μ 1 1) (μ 3)))) := by
  refine ct_v (cc := cX2_remember) (maxL := 2) (own := RX2) hfl hok (by decide) rfl rfl rfl (Nat.le_of_ble_eq_true rfl) (fun p e s m below meth c C hr => ?_)
  refine go_lv (lv' := [some (.ref (ad 7)), some (.ref (ad 1))]) rfl ?_
  obtain ⟨o, ho, h71, h72, hm6, hh⟩ := hC
  refine go_aload0 C (pc := 0) dX2_remember_0 ?_
  refine go_get C (pc := 1) 7 (by decide) rfl rfl 2 (by decide) rfl rfl hi_X2_remember_RX2 lk_X2_remember_26 dX2_remember_1 ?_
  refine go_bipush C (pc := 4) (v := 6) (by decide) dX2_remember_4 ?_
  refine go_icmp_ne C (pc := 6) (tgt := 32) dX2_remember_6 (by decide) (fun h6 => ?_) (fun h6 => ?_)
  · have hne : ¬ w = 6 := fun q => h6 (by show μ 7 2 = 6; rw [h72, q]; decide)
    refine go_aload1 C (pc := 32) dX2_remember_32 ?_
    refine go_aload0 C (pc := 33) dX2_remember_33 ?_
    refine go_get C (pc := 34) 7 (by decide) rfl rfl 0 (by decide) rfl rfl hi_X2_remember_RX2 lk_X2_remember_16 dX2_remember_34 ?_
    refine go_aload0 C (pc := 37) dX2_remember_37 ?_
    refine go_aload0 C (pc := 38) dX2_remember_38 ?_
    refine go_get C (pc := 39) 7 (by decide) rfl rfl 2 (by decide) rfl rfl hi_X2_remember_RX2 lk_X2_remember_26 dX2_remember_39 ?_
    refine go_top (y := nI w) h72 ?_
    refine go_ciV1 C (pc := 42) obj_7 (c_X2_start C.fl C.ok μ o w ho hm6 h71) gX2_remember_X2_start rfl rfl yok_X2_start ⟨rfl, rfl⟩ ⟨Nat.le_of_ble_eq_true rfl, Nat.le_of_ble_eq_true rfl⟩ (Nat.le_of_ble_eq_true rfl) ⟨Nat.zero_le _, Nat.zero_le _⟩ dX2_remember_42 (fun r2 μ2 hc2 => ?_)
    obtain ⟨rfl, hm2⟩ := hc2
    replace hm2 := hm2.symm
    subst hm2
    refine go_cvV2 C (pc := 45) obj_1 (c_X5_writeTo_8 C.fl C.ok _ _ (by omega)) gX2_remember_X5_writeTo rfl rfl yok_X5_writeTo ⟨rfl, rfl⟩ ⟨Nat.le_of_ble_eq_true rfl, Nat.le_of_ble_eq_true rfl⟩ (Nat.le_of_ble_eq_true rfl) ⟨Nat.zero_le _, Nat.zero_le _⟩ dX2_remember_45 (fun μ3 hc3 => ?_)
    replace hc3 := hc3.symm
    subst hc3
    refine go_aload0 C (pc := 48) dX2_remember_48 ?_
    refine go_dup C (pc := 49) rfl dX2_remember_49 ?_
    refine go_get C (pc := 50) 7 (by decide) rfl rfl 2 (by decide) rfl rfl hi_X2_remember_RX2 lk_X2_remember_26 dX2_remember_50 ?_
    refine go_iconst C (pc := 53) (v := 1) (by decide) dX2_remember_53 ?_
    refine go_iadd C (pc := 54) dX2_remember_54 ?_
    refine go_put C (pc := 55) 7 (by decide) rfl rfl 2 (by decide) rfl hi_X2_remember_RX2 lk_X2_remember_26 tyX2_ok nmX2 rfl rfl rfl (Nat.le_of_ble_eq_true rfl) rfl dX2_remember_55 ?_
    refine go_vret C hr dX2_remember_58 ⟨⟨_, _, (mset_79 _ _ _)⟩, o, ho, h71, ?_, ?_, fun t ht k hk => ?_⟩
    · show μ 7 2 + 1 = _
      rw [h72, nI_1, remM, if_neg hne]
    · unfold remM; rw [if_neg hne]; omega
    · show wrS (μ 9) ((o + w) % 6 * 18) (μ 1 0) (μ 1 1) (μ 3) 16 ((o + t) % 6 * 18 + k) = _
      unfold remM at ht
      rw [if_neg hne] at ht
      unfold remH
      rw [if_neg hne]
      by_cases e : t = w
      · subst e; rw [if_pos rfl, wr_in hk]
      · rw [if_neg e, wr_out (by omega), hh t (by omega) k hk]
  · have h6 : w = 6 := nI_inj3 (by omega) (by omega) (by rw [← h72]; exact h6)
    refine go_aload0 C (pc := 9) dX2_remember_9 ?_
    refine go_aload0 C (pc := 10) dX2_remember_10 ?_
    refine go_get C (pc := 11) 7 (by decide) rfl rfl 1 (by decide) rfl rfl hi_X2_remember_RX2 lk_X2_remember_22 dX2_remember_11 ?_
    refine go_iconst C (pc := 14) (v := 1) (by decide) dX2_remember_14 ?_
    refine go_iadd C (pc := 15) dX2_remember_15 ?_
    refine go_bipush C (pc := 16) (v := 6) (by decide) dX2_remember_16 ?_
    refine go_irem C (pc := 18) (by decide) dX2_remember_18 ?_
    refine go_put C (pc := 19) 7 (by decide) rfl rfl 1 (by decide) rfl hi_X2_remember_RX2 lk_X2_remember_22 tyX2_ok nmX2 rfl rfl rfl (Nat.le_of_ble_eq_true rfl) rfl dX2_remember_19 ?_
    refine go_aload0 C (pc := 22) dX2_remember_22 ?_
    refine go_dup C (pc := 23) rfl dX2_remember_23 ?_
    refine go_get C (pc := 24) 7 (by decide) rfl rfl 2 (by decide) rfl rfl hi_X2_remember_RX2 lk_X2_remember_26 dX2_remember_24 ?_
    refine go_iconst C (pc := 27) (v := 1) (by decide) dX2_remember_27 ?_
    refine go_isub C (pc := 28) dX2_remember_28 ?_
    refine go_put C (pc := 29) 7 (by decide) rfl rfl 2 (by decide) rfl hi_X2_remember_RX2 lk_X2_remember_26 tyX2_ok nmX2 rfl rfl rfl (Nat.le_of_ble_eq_true rfl) rfl dX2_remember_29 ?_
    skip
    refine go_aload1 C (pc := 32) dX2_remember_32 ?_
    refine go_aload0 C (pc := 33) dX2_remember_33 ?_
    refine go_get C (pc := 34) 7 (by decide) rfl rfl 0 (by decide) rfl rfl hi_X2_remember_RX2 lk_X2_remember_16 dX2_remember_34 ?_
    refine go_aload0 C (pc := 37) dX2_remember_37 ?_
    refine go_aload0 C (pc := 38) dX2_remember_38 ?_
    refine go_get C (pc := 39) 7 (by decide) rfl rfl 2 (by decide) rfl rfl hi_X2_remember_RX2 lk_X2_remember_26 dX2_remember_39 ?_
    refine go_top (y := nI 5) (by show μ 7 2 - 1 = nI 5; rw [h72, h6]; decide) ?_
    refine go_ciV1 C (pc := 42) obj_7 (c_X2_start C.fl C.ok (mset (mset μ 7 (upd (μ 7) 1 (μ 7 1 + 1 - (μ 7 1 + 1) / 6 * 6))) 7 (upd ((mset μ 7 (upd (μ 7) 1 (μ 7 1 + 1 - (μ 7 1 + 1) / 6 * 6))) 7) 2 (μ 7 2 - 1))) ((o + 1) % 6) 5 (by omega) (by decide) (by show μ 7 1 + 1 - (μ 7 1 + 1) / 6 * 6 = _; rw [h71, ring1 ho])) gX2_remember_X2_start rfl rfl yok_X2_start ⟨rfl, rfl⟩ ⟨Nat.le_of_ble_eq_true rfl, Nat.le_of_ble_eq_true rfl⟩ (Nat.le_of_ble_eq_true rfl) ⟨Nat.zero_le _, Nat.zero_le _⟩ dX2_remember_42 (fun r4 μ4 hc4 => ?_)
    obtain ⟨rfl, hm4⟩ := hc4
    replace hm4 := hm4.symm
    subst hm4
    refine go_cvV2 C (pc := 45) obj_1 (c_X5_writeTo_8 C.fl C.ok _ _ (by omega)) gX2_remember_X5_writeTo rfl rfl yok_X5_writeTo ⟨rfl, rfl⟩ ⟨Nat.le_of_ble_eq_true rfl, Nat.le_of_ble_eq_true rfl⟩ (Nat.le_of_ble_eq_true rfl) ⟨Nat.zero_le _, Nat.zero_le _⟩ dX2_remember_45 (fun μ5 hc5 => ?_)
    replace hc5 := hc5.symm
    subst hc5
    refine go_aload0 C (pc := 48) dX2_remember_48 ?_
    refine go_dup C (pc := 49) rfl dX2_remember_49 ?_
    refine go_get C (pc := 50) 7 (by decide) rfl rfl 2 (by decide) rfl rfl hi_X2_remember_RX2 lk_X2_remember_26 dX2_remember_50 ?_
    refine go_iconst C (pc := 53) (v := 1) (by decide) dX2_remember_53 ?_
    refine go_iadd C (pc := 54) dX2_remember_54 ?_
    refine go_put C (pc := 55) 7 (by decide) rfl rfl 2 (by decide) rfl hi_X2_remember_RX2 lk_X2_remember_26 tyX2_ok nmX2 rfl rfl rfl (Nat.le_of_ble_eq_true rfl) rfl dX2_remember_55 ?_
    refine go_vret C hr dX2_remember_58 ⟨⟨_, _, (mset_7779 _ _ _ _ _)⟩, (o + 1) % 6, by omega, ?_, ?_, ?_, fun t ht k hk => ?_⟩
    · show μ 7 1 + 1 - (μ 7 1 + 1) / 6 * 6 = _
      rw [h71, ring1 ho]
    · show μ 7 2 - 1 + 1 = _
      rw [h72, h6]; decide
    · unfold remM; rw [if_pos h6]; decide
    · show wrS (μ 9) (((o + 1) % 6 + 5) % 6 * 18) (μ 1 0) (μ 1 1) (μ 3) 16 (((o + 1) % 6 + t) % 6 * 18 + k) = _
      unfold remM at ht
      rw [if_pos h6] at ht
      unfold remH
      rw [if_pos h6]
      by_cases e : t < 5
      · rw [if_pos e, wr_out (by omega), ← hh (t + 1) (by omega) k hk]
        congr 1
        omega
      · rw [if_neg e, show t = 5 by omega, wr_in hk]
