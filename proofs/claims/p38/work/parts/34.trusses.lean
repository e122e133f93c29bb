/-! ===== ThornCores$Trusses: peeling ===== -/
theorem up_next {P : Nat → Prop} {k : Nat} (h : ∀ x, x ≤ k → P x) (h1 : P (k + 1)) : ∀ x, x ≤ k + 1 → P x := fun x hx => by
  rcases Nat.lt_or_ge k x with q | q
  · rw [show x = k + 1 by omega]; exact h1
  · exact h x q
/-- the first i rows of f, g behind them -/
def cpN (f g : Nat → Int32) (i : Nat) : Nat → Int32 := fun k => if k < i then f k else g k
theorem cpN_0 (f g : Nat → Int32) : cpN f g 0 = g := by funext k; simp [cpN]
theorem cpN_s (f g : Nat → Int32) (i : Nat) : upd (cpN f g i) i (f i) = cpN f g (i + 1) := by
  funext k
  simp only [upd, cpN]
  by_cases h : k = i
  · subst h; simp
  · rw [if_neg h]
    by_cases h2 : k < i
    · rw [if_pos h2, if_pos (by omega)]
    · rw [if_neg h2, if_neg (by omega)]
theorem cpN_in {f g : Nat → Int32} {i k : Nat} (h : k < i) : cpN f g i k = f k := by simp [cpN, h]
theorem TV_cong {n : Nat} {pr : Int32} {f g : Nat → Int32} (h : TV n pr f) (e : ∀ i, i < 16 → g i = f i) : TV n pr g :=
  ⟨h.1, h.2.1, fun i j hi hb => h.2.2.1 i j hi (by rw [← e i hi]; exact hb), fun i j hi hj => by rw [e i hi, e j hj]; exact h.2.2.2 i j hi hj⟩
theorem trI_cong {th : Nat → Int32} {n k : Nat} {f g : Nat → Int32} (h : trI th n k f) (e : ∀ i, i < 16 → g i = f i) : trI th n k g :=
  ⟨TV_cong h.1 e, fun i hi => by rw [e i hi]; exact h.2.1 i hi, fun x h1 h2 h3 i hi => by rw [e i hi]; exact h.2.2 x h1 h2 h3 i hi⟩
theorem yok_X6_takeAllThorns : yOK yX6_takeAllThorns 0 := by unfold yOK; decide +kernel
theorem hi_X6_takeAllThorns_RX6 : ∀ w ∈ wsX60, w ∈ wsX6_takeAllThorns := by decide +kernel
theorem lk_X6_takeAllThorns_14 : Cond.fieldLink RX6 14 "ThornCores$Trusses" "left" "LThornCores$Row;" ∈ wsX6_takeAllThorns := by decide +kernel
theorem lk_X6_takeAllThorns_23 : Cond.fieldLink RX6 23 "ThornCores$Trusses" "thicket" "LThornCores$Thicket;" ∈ wsX6_takeAllThorns := by decide +kernel
set_option maxRecDepth 20000 in
set_option maxHeartbeats 4000000 in
theorem c_X6_takeAllThorns {l : Launch} {D : va_G} {ad : Nat → Nat} {cI cL : ClassId} (hfl : l.flags = flags0) (hok : adOK ad) (μ : Mem) : CtV l D ad cI cL yX6_takeAllThorns wsX6_takeAllThorns (RM 2 42) [.ref (ad 15)] μ (fun (μ' : Mem) => μ' = mset μ 17 (cpN (μ 3) (μ 17) 16)) := by
  refine ct_v (cc := cX6_takeAllThorns) (maxL := 2) (own := RX6) hfl hok (by decide) rfl rfl rfl (Nat.le_of_ble_eq_true rfl) (fun p e s m below meth c C hr => ?_)
  refine go_lv (lv' := [some (.ref (ad 15)), none]) rfl ?_
  have key : ∀ i, i ≤ 16 → Go p l e (headSpec wsX6_takeAllThorns (RM 2 42)).room s m ([.ref (ad 15)] : List Value).toArray below meth c 0 0 (MQ below (va_Qv (fun (μ' : Mem) => μ' = mset μ 17 (cpN (μ 3) (μ 17) 16)) (fun μ' t => PreW D ad cI cL μ' t) (AW ad)) ([.ref (ad 15)] : List Value).toArray s 0 0 (AW ad)) (AW ad) D ad cI cL 2 2 [some (.ref (ad 15)), some (.int (nI i))] [] (mset μ 17 (cpN (μ 3) (μ 17) i)) := by
    refine dn_ind ?_ ?_
    · refine go_iload1 C (pc := 2) dX6_takeAllThorns_2 ?_
      refine go_bipush C (pc := 3) (v := 16) (by decide) dX6_takeAllThorns_3 ?_
      refine go_icmp_ge C (pc := 5) (tgt := 30) dX6_takeAllThorns_5 (by decide) (fun h5 => ?_) (fun h5 => ?_)
      · exact go_vret C hr dX6_takeAllThorns_30 (rfl)
      · exact absurd (cnt_le nI16 (Nat.le_refl _) (by omega)) h5
    · intro i hi ih
      refine go_iload1 C (pc := 2) dX6_takeAllThorns_2 ?_
      refine go_bipush C (pc := 3) (v := 16) (by decide) dX6_takeAllThorns_3 ?_
      refine go_icmp_ge C (pc := 5) (tgt := 30) dX6_takeAllThorns_5 (by decide) (fun h5 => ?_) (fun h5 => ?_)
      · exact absurd h5 (cnt_nle nI16 hi (by omega))
      · refine go_aload0 C (pc := 8) dX6_takeAllThorns_8 ?_
        refine go_get C (pc := 9) 15 (by decide) rfl rfl 1 (by decide) rfl rfl hi_X6_takeAllThorns_RX6 lk_X6_takeAllThorns_14 dX6_takeAllThorns_9 ?_
        refine go_iload1 C (pc := 12) dX6_takeAllThorns_12 ?_
        refine go_aload0 C (pc := 13) dX6_takeAllThorns_13 ?_
        refine go_get C (pc := 14) 15 (by decide) rfl rfl 0 (by decide) rfl rfl hi_X6_takeAllThorns_RX6 lk_X6_takeAllThorns_23 dX6_takeAllThorns_14 ?_
        refine go_iload1 C (pc := 17) dX6_takeAllThorns_17 ?_
        refine go_ciV1 C (pc := 18) obj_1 (c_X5_aroundN C.fl C.ok _ _ (by omega)) gX6_takeAllThorns_X5_around rfl rfl yok_X5_around ⟨rfl, rfl⟩ ⟨Nat.le_of_ble_eq_true rfl, Nat.le_of_ble_eq_true rfl⟩ (Nat.le_of_ble_eq_true rfl) ⟨Nat.zero_le _, Nat.zero_le _⟩ dX6_takeAllThorns_18 (fun r3 μ3 hc3 => ?_)
        obtain ⟨rfl, hm3⟩ := hc3
        replace hm3 := hm3.symm
        subst hm3
        refine go_top (y := μ 3 i) rfl ?_
        refine go_cvV2 C (pc := 21) obj_16 (c_X3_putN C.fl C.ok _ 16 16 row_16 _ _  (by omega)) gX6_takeAllThorns_X3_put rfl rfl yok_X3_put ⟨rfl, rfl⟩ ⟨Nat.le_of_ble_eq_true rfl, Nat.le_of_ble_eq_true rfl⟩ (Nat.le_of_ble_eq_true rfl) ⟨Nat.zero_le _, Nat.zero_le _⟩ dX6_takeAllThorns_21 (fun μ4 hc4 => ?_)
        replace hc4 := hc4.symm
        subst hc4
        refine go_iinc1 C (pc := 24) (v := 1) dX6_takeAllThorns_24 (by decide) ?_
        refine go_goto C (pc := 27) (tgt := 2) dX6_takeAllThorns_27 (by decide) ?_
        exact go_lv (by rw [nI_1]) (go_mem (by rw [mset_mset, mset_same, cpN_s]) ih)
  refine go_iconst C (pc := 0) (v := 0) (by decide) dX6_takeAllThorns_0 ?_
  refine go_istore1 C (pc := 1) dX6_takeAllThorns_1 ?_
  exact go_lv (by rw [nI_0]) (go_mem (by rw [cpN_0, mset_id]) (key 0 (Nat.zero_le _)))

/-- what a pass has done so far: F is on the way; nothing dropped yet and all thorns before (i, j) strong enough; or something is gone -/
def dwI (th : Nat → Int32) (n k : Nat) (F0 F : Nat → Int32) (r : Int32) (i j : Nat) : Prop := trI th n k F ∧ ((r = 0 ∧ F = F0 ∧ ∀ a b, (a < i ∨ (a = i ∧ b < j)) → a < b → b < n → bt (F a) b = true → k ≤ ct (F a &&& F b)) ∨ (r = 1 ∧ sumE F + 2 ≤ sumE F0))
theorem dw_next {th : Nat → Int32} {n k : Nat} {F0 F : Nat → Int32} {r : Int32} {i j : Nat} (h : dwI th n k F0 F r i j) (hs : bt (F i) j = true → k ≤ ct (F i &&& F j)) : dwI th n k F0 F r i (j + 1) := by
  refine ⟨h.1, h.2.imp (fun ⟨h1, h2, h3⟩ => ⟨h1, h2, fun a b hab h4 h5 h6 => ?_⟩) id⟩
  by_cases e : a = i ∧ b = j
  · rw [e.1, e.2] at h6 ⊢; exact hs h6
  · exact h3 a b (by omega) h4 h5 h6
theorem dw_row {th : Nat → Int32} {n k : Nat} {F0 F : Nat → Int32} {r : Int32} {i : Nat} (h : dwI th n k F0 F r i n) : dwI th n k F0 F r (i + 1) (i + 1 + 1) := by
  refine ⟨h.1, h.2.imp (fun ⟨h1, h2, h3⟩ => ⟨h1, h2, fun a b hab h4 h5 h6 => h3 a b ?_ h4 h5 h6⟩) id⟩
  omega
theorem dw_drop {th : Nat → Int32} {n k : Nat} {F0 F : Nat → Int32} {r : Int32} {i j : Nat} (h : dwI th n k F0 F r i j) (hi : i < 16) (hj : j < 16) (hb : bt (F i) j = true) (hk : ct (F i &&& F j) < k) : dwI th n k F0 (dropE F i j) 1 i (j + 1) := by
  have e := sumE_drop h.1.1 hi hj hb
  refine ⟨trI_drop h.1 hi hj hb hk, Or.inr ⟨rfl, ?_⟩⟩
  rcases h.2 with ⟨-, h2, -⟩ | ⟨-, h2⟩
  · rw [← h2]; omega
  · omega
theorem dw_01 {th : Nat → Int32} {n k : Nat} {F0 F : Nat → Int32} {r : Int32} {i j : Nat} (h : dwI th n k F0 F r i j) : r = 0 ∨ r = 1 := h.2.imp (fun h => h.1) (fun h => h.1)
/-- the end of a pass -/
theorem dw_end {th : Nat → Int32} {n k : Nat} {F0 F : Nat → Int32} {r : Int32} {j : Nat} (h : dwI th n k F0 F r n j) : trI th n k F ∧ ((r = 0 ∧ F = F0 ∧ trC k F) ∨ (r = 1 ∧ sumE F + 2 ≤ sumE F0)) := by
  refine ⟨h.1, h.2.imp (fun ⟨h1, h2, h3⟩ => ⟨h1, h2, fun a b ha hb => ?_⟩) id⟩
  obtain ⟨q1, q2, q3⟩ := h.1.1.2.2.1 a b ha hb
  have hn := h.1.1.1
  rcases Nat.lt_or_ge a b with w | w
  · exact h3 a b (by omega) w q2 hb
  · have := h3 b a (by omega) (by omega) q1 (by rw [h.1.1.2.2.2 b a (by omega) ha]; exact hb)
    rw [show F a &&& F b = F b &&& F a from b_ext fun t _ => by rw [b_and, b_and, Bool.and_comm]]
    exact this
theorem yok_X6_dropWeak : yOK yX6_dropWeak 1 := by unfold yOK; decide +kernel
theorem hi_X6_dropWeak_RX6 : ∀ w ∈ wsX60, w ∈ wsX6_dropWeak := by decide +kernel
theorem lk_X6_dropWeak_23 : Cond.fieldLink RX6 23 "ThornCores$Trusses" "thicket" "LThornCores$Thicket;" ∈ wsX6_dropWeak := by decide +kernel
theorem hi_X6_dropWeak_RX5 : ∀ w ∈ wsX50, w ∈ wsX6_dropWeak := by decide +kernel
theorem lk_X6_dropWeak_14 : Cond.fieldLink RX6 14 "ThornCores$Trusses" "left" "LThornCores$Row;" ∈ wsX6_dropWeak := by decide +kernel
theorem lw_X6_dropWeak_s_X7_in : Cond.static yX7_in ∈ wsX6_dropWeak := by decide +kernel
theorem lw_X6_dropWeak_i_X7_in : Cond.initialized RX7 ∈ wsX6_dropWeak := by decide +kernel
theorem lw_X6_dropWeak_s_X7_bits : Cond.static yX7_bits ∈ wsX6_dropWeak := by decide +kernel
theorem lw_X6_dropWeak_i_X7_bits : Cond.initialized RX7 ∈ wsX6_dropWeak := by decide +kernel
theorem lw_X6_dropWeak_s_X7_bit : Cond.static yX7_bit ∈ wsX6_dropWeak := by decide +kernel
theorem lw_X6_dropWeak_i_X7_bit : Cond.initialized RX7 ∈ wsX6_dropWeak := by decide +kernel
set_option maxRecDepth 20000 in
set_option maxHeartbeats 4000000 in
theorem c_X6_dropWeak {l : Launch} {D : va_G} {ad : Nat → Nat} {cI cL : ClassId} (hfl : l.flags = flags0) (hok : adOK ad) (μ : Mem) (k : Nat) {n : Nat} (hc : μ 1 0 = nI n) (hT : TV n (μ 1 1) (μ 3)) (hk : k ≤ 16) (hI : trI (μ 3) n k (μ 17)) : CtI l D ad cI cL yX6_dropWeak wsX6_dropWeak (RM 2 40) [.ref (ad 15), .int (nI k)] μ (fun (r : Int32) (μ' : Mem) => ∃ F, μ' = mset μ 17 F ∧ trI (μ 3) n k F ∧ ((r = 0 ∧ F = μ 17 ∧ trC k F) ∨ (r = 1 ∧ sumE F + 2 ≤ sumE (μ 17)))) := by
  refine ct_i (cc := cX6_dropWeak) (maxL := 5) (own := RX6) .boolean hfl hok (by decide) rfl rfl rfl (Nat.le_of_ble_eq_true rfl) (fun p e s m below meth c C hr => ?_)
  refine go_lv (lv' := [some (.ref (ad 15)), some (.int (nI k)), none, none, none]) rfl ?_
  have hn := hT.1
  have key : ∀ i, i ≤ n → ∀ F r, dwI (μ 3) n k (μ 17) F r i (i + 1) → Go p l e (headSpec wsX6_dropWeak (RM 2 40)).room s m ([.ref (ad 15), .int (nI k)] : List Value).toArray below meth c 0 0 (MQ below (va_Qi (fun (r : Int32) (μ' : Mem) => ∃ F, μ' = mset μ 17 F ∧ trI (μ 3) n k F ∧ ((r = 0 ∧ F = μ 17 ∧ trC k F) ∨ (r = 1 ∧ sumE F + 2 ≤ sumE (μ 17)))) (fun μ' t => PreW D ad cI cL μ' t) (AW ad)) ([.ref (ad 15), .int (nI k)] : List Value).toArray s 0 0 (AW ad)) (AW ad) D ad cI cL 5 4 [some (.ref (ad 15)), some (.int (nI k)), some (.int r), some (.int (nI i)), none] [] (mset μ 17 F) := by
    refine dn_ind ?_ ?_
    · intro F r hF
      refine go_iload3 C (pc := 4) dX6_dropWeak_4 ?_
      refine go_aload0 C (pc := 5) dX6_dropWeak_5 ?_
      refine go_get C (pc := 6) 15 (by decide) rfl rfl 0 (by decide) rfl rfl hi_X6_dropWeak_RX6 lk_X6_dropWeak_23 dX6_dropWeak_6 ?_
      refine go_getN C (pc := 9) 1 (by decide) rfl rfl 0 (by decide) rfl rfl hi_X6_dropWeak_RX5 (host := "ThornCores") (by decide +kernel) dX6_dropWeak_9 ?_
      refine go_icmp_ge C (pc := 12) (tgt := 136) dX6_dropWeak_12 (by decide) (fun h12 => ?_) (fun h12 => ?_)
      · refine go_iload2 C (pc := 136) dX6_dropWeak_136 ?_
        exact go_zret C hr dX6_dropWeak_137 (dw_01 hF) ⟨F, rfl, dw_end hF⟩
      · exact absurd (cnt_le hc (Nat.le_refl _) (by omega)) h12
    · intro i hi ih
      have key2 : ∀ j, j ≤ n → ∀ F r, dwI (μ 3) n k (μ 17) F r i j → Go p l e (headSpec wsX6_dropWeak (RM 2 40)).room s m ([.ref (ad 15), .int (nI k)] : List Value).toArray below meth c 0 0 (MQ below (va_Qi (fun (r : Int32) (μ' : Mem) => ∃ F, μ' = mset μ 17 F ∧ trI (μ 3) n k F ∧ ((r = 0 ∧ F = μ 17 ∧ trC k F) ∨ (r = 1 ∧ sumE F + 2 ≤ sumE (μ 17)))) (fun μ' t => PreW D ad cI cL μ' t) (AW ad)) ([.ref (ad 15), .int (nI k)] : List Value).toArray s 0 0 (AW ad)) (AW ad) D ad cI cL 5 20 [some (.ref (ad 15)), some (.int (nI k)), some (.int r), some (.int (nI i)), some (.int (nI j))] [] (mset μ 17 F) := by
        refine dn_ind ?_ ?_
        · intro F r hF
          refine go_iload4 C (pc := 20) dX6_dropWeak_20 ?_
          refine go_aload0 C (pc := 22) dX6_dropWeak_22 ?_
          refine go_get C (pc := 23) 15 (by decide) rfl rfl 0 (by decide) rfl rfl hi_X6_dropWeak_RX6 lk_X6_dropWeak_23 dX6_dropWeak_23 ?_
          refine go_getN C (pc := 26) 1 (by decide) rfl rfl 0 (by decide) rfl rfl hi_X6_dropWeak_RX5 (host := "ThornCores") (by decide +kernel) dX6_dropWeak_26 ?_
          refine go_icmp_ge C (pc := 29) (tgt := 130) dX6_dropWeak_29 (by decide) (fun h29 => ?_) (fun h29 => ?_)
          · refine go_iinc3 C (pc := 130) (v := 1) dX6_dropWeak_130 (by decide) ?_
            refine go_goto C (pc := 133) (tgt := 4) dX6_dropWeak_133 (by decide) ?_
            exact go_drop4 (go_lv (by rw [nI_1]) (ih F r (dw_row hF)))
          · exact absurd (cnt_le hc (Nat.le_refl _) (by omega)) h29
        · intro j hj ih2 F r hF
          have hT1 := hF.1.1
          refine go_iload4 C (pc := 20) dX6_dropWeak_20 ?_
          refine go_aload0 C (pc := 22) dX6_dropWeak_22 ?_
          refine go_get C (pc := 23) 15 (by decide) rfl rfl 0 (by decide) rfl rfl hi_X6_dropWeak_RX6 lk_X6_dropWeak_23 dX6_dropWeak_23 ?_
          refine go_getN C (pc := 26) 1 (by decide) rfl rfl 0 (by decide) rfl rfl hi_X6_dropWeak_RX5 (host := "ThornCores") (by decide +kernel) dX6_dropWeak_26 ?_
          refine go_icmp_ge C (pc := 29) (tgt := 130) dX6_dropWeak_29 (by decide) (fun h29 => ?_) (fun h29 => ?_)
          · exact absurd h29 (cnt_nle hc hj (by omega))
          · refine go_aload0 C (pc := 32) dX6_dropWeak_32 ?_
            refine go_get C (pc := 33) 15 (by decide) rfl rfl 1 (by decide) rfl rfl hi_X6_dropWeak_RX6 lk_X6_dropWeak_14 dX6_dropWeak_33 ?_
            refine go_iload3 C (pc := 36) dX6_dropWeak_36 ?_
            refine go_ciV1 C (pc := 37) obj_16 (c_X3_atN C.fl C.ok _ 16 16 row_16 _  (by omega)) gX6_dropWeak_X3_at rfl rfl yok_X3_at ⟨rfl, rfl⟩ ⟨Nat.le_of_ble_eq_true rfl, Nat.le_of_ble_eq_true rfl⟩ (Nat.le_of_ble_eq_true rfl) ⟨Nat.zero_le _, Nat.zero_le _⟩ dX6_dropWeak_37 (fun r4 μ4 hc4 => ?_)
            obtain ⟨rfl, hm4⟩ := hc4
            replace hm4 := hm4.symm
            subst hm4
            refine go_top (y := F i) rfl ?_
            refine go_iload4 C (pc := 40) dX6_dropWeak_40 ?_
            refine go_ciSN2 C (pc := 42) (host := "ThornCores") (c_X7_inN C.fl C.ok _ _ _ (by omega)) gX6_dropWeak_X7_in_n40 rfl (by decide +kernel) lw_X6_dropWeak_s_X7_in lw_X6_dropWeak_i_X7_in yok_X7_in ⟨rfl, rfl⟩ ⟨Nat.le_of_ble_eq_true rfl, Nat.le_of_ble_eq_true rfl⟩ (Nat.le_of_ble_eq_true rfl) ⟨Nat.zero_le _, Nat.zero_le _⟩ dX6_dropWeak_42 (fun r5 μ5 hc5 => ?_)
            obtain ⟨rfl, hm5⟩ := hc5
            replace hm5 := hm5.symm
            subst hm5
            refine go_if_eq C (pc := 45) (tgt := 124) dX6_dropWeak_45 (by decide) (fun h45 => ?_) (fun h45 => ?_)
            · refine go_iinc4 C (pc := 124) (v := 1) dX6_dropWeak_124 (by decide) ?_
              refine go_goto C (pc := 127) (tgt := 20) dX6_dropWeak_127 (by decide) ?_
              exact go_lv (by rw [nI_1]) (ih2 F r (dw_next hF (fun w => absurd (w.symm.trans (bpos h45)) (by decide))))
            · refine go_aload0 C (pc := 48) dX6_dropWeak_48 ?_
              refine go_get C (pc := 49) 15 (by decide) rfl rfl 1 (by decide) rfl rfl hi_X6_dropWeak_RX6 lk_X6_dropWeak_14 dX6_dropWeak_49 ?_
              refine go_iload3 C (pc := 52) dX6_dropWeak_52 ?_
              refine go_ciV1 C (pc := 53) obj_16 (c_X3_atN C.fl C.ok _ 16 16 row_16 _  (by omega)) gX6_dropWeak_X3_at rfl rfl yok_X3_at ⟨rfl, rfl⟩ ⟨Nat.le_of_ble_eq_true rfl, Nat.le_of_ble_eq_true rfl⟩ (Nat.le_of_ble_eq_true rfl) ⟨Nat.zero_le _, Nat.zero_le _⟩ dX6_dropWeak_53 (fun r7 μ7 hc7 => ?_)
              obtain ⟨rfl, hm7⟩ := hc7
              replace hm7 := hm7.symm
              subst hm7
              refine go_top (y := F i) rfl ?_
              refine go_aload0 C (pc := 56) dX6_dropWeak_56 ?_
              refine go_get C (pc := 57) 15 (by decide) rfl rfl 1 (by decide) rfl rfl hi_X6_dropWeak_RX6 lk_X6_dropWeak_14 dX6_dropWeak_57 ?_
              refine go_iload4 C (pc := 60) dX6_dropWeak_60 ?_
              refine go_ciV1 C (pc := 62) obj_16 (c_X3_atN C.fl C.ok _ 16 16 row_16 _  (by omega)) gX6_dropWeak_X3_at rfl rfl yok_X3_at ⟨rfl, rfl⟩ ⟨Nat.le_of_ble_eq_true rfl, Nat.le_of_ble_eq_true rfl⟩ (Nat.le_of_ble_eq_true rfl) ⟨Nat.zero_le _, Nat.zero_le _⟩ dX6_dropWeak_62 (fun r8 μ8 hc8 => ?_)
              obtain ⟨rfl, hm8⟩ := hc8
              replace hm8 := hm8.symm
              subst hm8
              refine go_top (y := F j) rfl ?_
              refine go_iand C (pc := 65) dX6_dropWeak_65 ?_
              refine go_ciSN1 C (pc := 66) (host := "ThornCores") (c_X7_bitsN C.fl C.ok _ _ (sm_and _ (hT1.st (by omega)))) gX6_dropWeak_X7_bits_n37 rfl (by decide +kernel) lw_X6_dropWeak_s_X7_bits lw_X6_dropWeak_i_X7_bits yok_X7_bits ⟨rfl, rfl⟩ ⟨Nat.le_of_ble_eq_true rfl, Nat.le_of_ble_eq_true rfl⟩ (Nat.le_of_ble_eq_true rfl) ⟨Nat.zero_le _, Nat.zero_le _⟩ dX6_dropWeak_66 (fun r9 μ9 hc9 => ?_)
              obtain ⟨rfl, hm9⟩ := hc9
              replace hm9 := hm9.symm
              subst hm9
              refine go_iload1 C (pc := 69) dX6_dropWeak_69 ?_
              refine go_icmp_ge C (pc := 70) (tgt := 124) dX6_dropWeak_70 (by decide) (fun h70 => ?_) (fun h70 => ?_)
              · refine go_iinc4 C (pc := 124) (v := 1) dX6_dropWeak_124 (by decide) ?_
                refine go_goto C (pc := 127) (tgt := 20) dX6_dropWeak_127 (by decide) ?_
                exact go_lv (by rw [nI_1]) (ih2 F r (dw_next hF (fun _ => (nI_leI (by omega) (by have := ct_le (F i &&& F j); omega)).mp h70)))
              · have hne : i ≠ j := (hT1.2.2.1 i j (by omega) (bneg h45)).2.2
                refine go_aload0 C (pc := 73) dX6_dropWeak_73 ?_
                refine go_get C (pc := 74) 15 (by decide) rfl rfl 1 (by decide) rfl rfl hi_X6_dropWeak_RX6 lk_X6_dropWeak_14 dX6_dropWeak_74 ?_
                refine go_iload3 C (pc := 77) dX6_dropWeak_77 ?_
                refine go_aload0 C (pc := 78) dX6_dropWeak_78 ?_
                refine go_get C (pc := 79) 15 (by decide) rfl rfl 1 (by decide) rfl rfl hi_X6_dropWeak_RX6 lk_X6_dropWeak_14 dX6_dropWeak_79 ?_
                refine go_iload3 C (pc := 82) dX6_dropWeak_82 ?_
                refine go_ciV1 C (pc := 83) obj_16 (c_X3_atN C.fl C.ok _ 16 16 row_16 _  (by omega)) gX6_dropWeak_X3_at rfl rfl yok_X3_at ⟨rfl, rfl⟩ ⟨Nat.le_of_ble_eq_true rfl, Nat.le_of_ble_eq_true rfl⟩ (Nat.le_of_ble_eq_true rfl) ⟨Nat.zero_le _, Nat.zero_le _⟩ dX6_dropWeak_83 (fun r11 μ11 hc11 => ?_)
                obtain ⟨rfl, hm11⟩ := hc11
                replace hm11 := hm11.symm
                subst hm11
                refine go_iload4 C (pc := 86) dX6_dropWeak_86 ?_
                refine go_ciSN1 C (pc := 88) (host := "ThornCores") (c_X7_bit C.fl C.ok _ _ ) gX6_dropWeak_X7_bit_n61 rfl (by decide +kernel) lw_X6_dropWeak_s_X7_bit lw_X6_dropWeak_i_X7_bit yok_X7_bit ⟨rfl, rfl⟩ ⟨Nat.le_of_ble_eq_true rfl, Nat.le_of_ble_eq_true rfl⟩ (Nat.le_of_ble_eq_true rfl) ⟨Nat.zero_le _, Nat.zero_le _⟩ dX6_dropWeak_88 (fun r12 μ12 hc12 => ?_)
                obtain ⟨rfl, hm12⟩ := hc12
                replace hm12 := hm12.symm
                subst hm12
                refine go_iconst C (pc := 91) (v := -1) (by decide) dX6_dropWeak_91 ?_
                refine go_ixor C (pc := 92) dX6_dropWeak_92 ?_
                refine go_iand C (pc := 93) dX6_dropWeak_93 ?_
                refine go_cvV2 C (pc := 94) obj_16 (c_X3_putN C.fl C.ok _ 16 16 row_16 _ _  (by omega)) gX6_dropWeak_X3_put rfl rfl yok_X3_put ⟨rfl, rfl⟩ ⟨Nat.le_of_ble_eq_true rfl, Nat.le_of_ble_eq_true rfl⟩ (Nat.le_of_ble_eq_true rfl) ⟨Nat.zero_le _, Nat.zero_le _⟩ dX6_dropWeak_94 (fun μ13 hc13 => ?_)
                replace hc13 := hc13.symm
                subst hc13
                refine go_aload0 C (pc := 97) dX6_dropWeak_97 ?_
                refine go_get C (pc := 98) 15 (by decide) rfl rfl 1 (by decide) rfl rfl hi_X6_dropWeak_RX6 lk_X6_dropWeak_14 dX6_dropWeak_98 ?_
                refine go_iload4 C (pc := 101) dX6_dropWeak_101 ?_
                refine go_aload0 C (pc := 103) dX6_dropWeak_103 ?_
                refine go_get C (pc := 104) 15 (by decide) rfl rfl 1 (by decide) rfl rfl hi_X6_dropWeak_RX6 lk_X6_dropWeak_14 dX6_dropWeak_104 ?_
                refine go_iload4 C (pc := 107) dX6_dropWeak_107 ?_
                refine go_ciV1 C (pc := 109) obj_16 (c_X3_atN C.fl C.ok _ 16 16 row_16 _  (by omega)) gX6_dropWeak_X3_at rfl rfl yok_X3_at ⟨rfl, rfl⟩ ⟨Nat.le_of_ble_eq_true rfl, Nat.le_of_ble_eq_true rfl⟩ (Nat.le_of_ble_eq_true rfl) ⟨Nat.zero_le _, Nat.zero_le _⟩ dX6_dropWeak_109 (fun r14 μ14 hc14 => ?_)
                obtain ⟨rfl, hm14⟩ := hc14
                replace hm14 := hm14.symm
                subst hm14
                refine go_iload3 C (pc := 112) dX6_dropWeak_112 ?_
                refine go_ciSN1 C (pc := 113) (host := "ThornCores") (c_X7_bit C.fl C.ok _ _ ) gX6_dropWeak_X7_bit_n61 rfl (by decide +kernel) lw_X6_dropWeak_s_X7_bit lw_X6_dropWeak_i_X7_bit yok_X7_bit ⟨rfl, rfl⟩ ⟨Nat.le_of_ble_eq_true rfl, Nat.le_of_ble_eq_true rfl⟩ (Nat.le_of_ble_eq_true rfl) ⟨Nat.zero_le _, Nat.zero_le _⟩ dX6_dropWeak_113 (fun r15 μ15 hc15 => ?_)
                obtain ⟨rfl, hm15⟩ := hc15
                replace hm15 := hm15.symm
                subst hm15
                refine go_iconst C (pc := 116) (v := -1) (by decide) dX6_dropWeak_116 ?_
                refine go_ixor C (pc := 117) dX6_dropWeak_117 ?_
                refine go_iand C (pc := 118) dX6_dropWeak_118 ?_
                refine go_cvV2 C (pc := 119) obj_16 (c_X3_putN C.fl C.ok _ 16 16 row_16 _ _  (by omega)) gX6_dropWeak_X3_put rfl rfl yok_X3_put ⟨rfl, rfl⟩ ⟨Nat.le_of_ble_eq_true rfl, Nat.le_of_ble_eq_true rfl⟩ (Nat.le_of_ble_eq_true rfl) ⟨Nat.zero_le _, Nat.zero_le _⟩ dX6_dropWeak_119 (fun μ16 hc16 => ?_)
                replace hc16 := hc16.symm
                subst hc16
                refine go_iconst C (pc := 122) (v := 1) (by decide) dX6_dropWeak_122 ?_
                refine go_istore2 C (pc := 123) dX6_dropWeak_123 ?_
                refine go_iinc4 C (pc := 124) (v := 1) dX6_dropWeak_124 (by decide) ?_
                refine go_goto C (pc := 127) (tgt := 20) dX6_dropWeak_127 (by decide) ?_
                exact go_lv (by rw [nI_1]) (go_mem ((mset_mset _ 17 _ _).trans ((mset_mset μ 17 F _).trans (congrArg (mset μ 17) (by show upd (upd F i (F i &&& (bitI (nI j) ^^^ (-1)))) j (upd F i (F i &&& (bitI (nI j) ^^^ (-1))) j &&& (bitI (nI i) ^^^ (-1))) = dropE F i j; rw [pk_un hne.symm]; rfl)))) (ih2 _ 1 (dw_drop hF (by omega) (by omega) (bneg h45) (by have := ct_le (F i &&& F j); exact Nat.not_le.mp (fun q => h70 (nI_le q (by omega)))))))
      intro F r hF
      refine go_iload3 C (pc := 4) dX6_dropWeak_4 ?_
      refine go_aload0 C (pc := 5) dX6_dropWeak_5 ?_
      refine go_get C (pc := 6) 15 (by decide) rfl rfl 0 (by decide) rfl rfl hi_X6_dropWeak_RX6 lk_X6_dropWeak_23 dX6_dropWeak_6 ?_
      refine go_getN C (pc := 9) 1 (by decide) rfl rfl 0 (by decide) rfl rfl hi_X6_dropWeak_RX5 (host := "ThornCores") (by decide +kernel) dX6_dropWeak_9 ?_
      refine go_icmp_ge C (pc := 12) (tgt := 136) dX6_dropWeak_12 (by decide) (fun h12 => ?_) (fun h12 => ?_)
      · exact absurd h12 (cnt_nle hc hi (by omega))
      · refine go_iload3 C (pc := 15) dX6_dropWeak_15 ?_
        refine go_iconst C (pc := 16) (v := 1) (by decide) dX6_dropWeak_16 ?_
        refine go_iadd C (pc := 17) dX6_dropWeak_17 ?_
        refine go_istore4 C (pc := 18) dX6_dropWeak_18 ?_
        exact go_lv (by rw [nI_1]) (key2 (i + 1) hi F r hF)
  refine go_iconst C (pc := 0) (v := 0) (by decide) dX6_dropWeak_0 ?_
  refine go_istore2 C (pc := 1) dX6_dropWeak_1 ?_
  refine go_iconst C (pc := 2) (v := 0) (by decide) dX6_dropWeak_2 ?_
  refine go_istore3 C (pc := 3) dX6_dropWeak_3 ?_
  exact go_lv (by rw [nI_0]) (go_mem (mset_id μ 17).symm (key 0 (Nat.zero_le _) _ 0 ⟨hI, Or.inl ⟨rfl, rfl, fun a b h1 h2 => by omega⟩⟩))

theorem yok_X6_peel : yOK yX6_peel 1 := by unfold yOK; decide +kernel
set_option maxRecDepth 20000 in
set_option maxHeartbeats 4000000 in
theorem c_X6_peel {l : Launch} {D : va_G} {ad : Nat → Nat} {cI cL : ClassId} (hfl : l.flags = flags0) (hok : adOK ad) (μ : Mem) (k : Nat) {n : Nat} (hc : μ 1 0 = nI n) (hT : TV n (μ 1 1) (μ 3)) (hk : k ≤ 16) (hI : trI (μ 3) n k (μ 17)) : CtV l D ad cI cL yX6_peel wsX6_peel (RM 3 64) [.ref (ad 15), .int (nI k)] μ (fun (μ' : Mem) => ∃ F, μ' = mset μ 17 F ∧ isTr (μ 3) n k F) := by
  refine ct_v (cc := cX6_peel) (maxL := 3) (own := RX6) hfl hok (by decide) rfl rfl rfl (Nat.le_of_ble_eq_true rfl) (fun p e s m below meth c C hr => ?_)
  refine go_lv (lv' := [some (.ref (ad 15)), some (.int (nI k)), none]) rfl ?_
  have key : ∀ i, i ≤ 121 → ∀ F, trI (μ 3) n k F → sumE F + 2 * i ≤ 240 → Go p l e (headSpec wsX6_peel (RM 3 64)).room s m ([.ref (ad 15), .int (nI k)] : List Value).toArray below meth c 0 0 (MQ below (va_Qv (fun (μ' : Mem) => ∃ F, μ' = mset μ 17 F ∧ isTr (μ 3) n k F) (fun μ' t => PreW D ad cI cL μ' t) (AW ad)) ([.ref (ad 15), .int (nI k)] : List Value).toArray s 0 0 (AW ad)) (AW ad) D ad cI cL 3 2 [some (.ref (ad 15)), some (.int (nI k)), some (.int (nI i))] [] (mset μ 17 F) := by
    refine dn_ind ?_ ?_
    · intro F _ h; omega
    · intro i hi ih F hF hs
      refine go_iload2 C (pc := 2) dX6_peel_2 ?_
      refine go_bipush C (pc := 3) (v := 120) (by decide) dX6_peel_3 ?_
      refine go_icmp_gt C (pc := 5) (tgt := 25) dX6_peel_5 (by decide) (fun h5 => ?_) (fun h5 => ?_)
      · exact absurd h5 (by rw [show (120 : Int32) = nI 120 from by decide +kernel, nI_ltI (by decide) (by omega)]; omega)
      · refine go_aload0 C (pc := 8) dX6_peel_8 ?_
        refine go_iload1 C (pc := 9) dX6_peel_9 ?_
        refine go_ciV1 C (pc := 10) obj_15 (c_X6_dropWeak C.fl C.ok (mset μ 17 F) _ hc hT hk hF) gX6_peel_X6_dropWeak rfl rfl yok_X6_dropWeak ⟨rfl, rfl⟩ ⟨Nat.le_of_ble_eq_true rfl, Nat.le_of_ble_eq_true rfl⟩ (Nat.le_of_ble_eq_true rfl) ⟨Nat.zero_le _, Nat.zero_le _⟩ dX6_peel_10 (fun r2 μ2 hc2 => ?_)
        obtain ⟨F1, rfl, hI1, hd1⟩ := hc2
        refine go_if_ne C (pc := 13) (tgt := 19) dX6_peel_13 (by decide) (fun h13 => ?_) (fun h13 => ?_)
        · refine go_iinc2 C (pc := 19) (v := 1) dX6_peel_19 (by decide) ?_
          refine go_goto C (pc := 22) (tgt := 2) dX6_peel_22 (by decide) ?_
          rcases hd1 with ⟨q, -⟩ | ⟨-, q⟩
          · exact absurd q h13
          · exact go_lv (by rw [nI_1]) (go_mem (by rw [mset_mset]) (ih F1 hI1 (by have : sumE F1 + 2 ≤ sumE F := q; omega)))
        · refine go_goto C (pc := 16) (tgt := 25) dX6_peel_16 (by decide) ?_
          rcases hd1 with ⟨-, q1, q2⟩ | ⟨q, -⟩
          · exact go_vret C hr dX6_peel_25 ⟨F1, by rw [mset_mset], hI1, q2⟩
          · exact absurd h13 (by rw [q]; decide)
  refine go_iconst C (pc := 0) (v := 0) (by decide) dX6_peel_0 ?_
  refine go_istore2 C (pc := 1) dX6_peel_1 ?_
  exact go_lv (by rw [nI_0]) (go_mem (mset_id μ 17).symm (key 0 (Nat.zero_le _) _ hI (by have := sumE_le hI.1; omega)))

noncomputable def trS (th : Nat → Int32) (n k : Nat) : Int32 := sumI (fun i => nI (ct (trE th n k i))) 16 / 2
theorem yok_X6_size : yOK yX6_size 1 := by unfold yOK; decide +kernel
theorem hi_X6_size_RX6 : ∀ w ∈ wsX60, w ∈ wsX6_size := by decide +kernel
theorem lk_X6_size_14 : Cond.fieldLink RX6 14 "ThornCores$Trusses" "left" "LThornCores$Row;" ∈ wsX6_size := by decide +kernel
theorem lw_X6_size_s_X7_bits : Cond.static yX7_bits ∈ wsX6_size := by decide +kernel
theorem lw_X6_size_i_X7_bits : Cond.initialized RX7 ∈ wsX6_size := by decide +kernel
set_option maxRecDepth 20000 in
set_option maxHeartbeats 4000000 in
theorem c_X6_size {l : Launch} {D : va_G} {ad : Nat → Nat} {cI cL : ClassId} (hfl : l.flags = flags0) (hok : adOK ad) (μ : Mem) (k : Nat) {n : Nat} (hc : μ 1 0 = nI n) (hT : TV n (μ 1 1) (μ 3)) (hk : k ≤ 15) : CtI l D ad cI cL yX6_size wsX6_size (RM 4 86) [.ref (ad 15), .int (nI k)] μ (fun (r : Int32) (μ' : Mem) => r = trS (μ 3) n k ∧ ∃ F, μ' = mset μ 17 F) := by
  refine ct_i (cc := cX6_size) (maxL := 4) (own := RX6) .int hfl hok (by decide) rfl rfl rfl (Nat.le_of_ble_eq_true rfl) (fun p e s m below meth c C hr => ?_)
  refine go_lv (lv' := [some (.ref (ad 15)), some (.int (nI k)), none, none]) rfl ?_
  have key : ∀ F, isTr (μ 3) n k F → ∀ i, i ≤ 16 → Go p l e (headSpec wsX6_size (RM 4 86)).room s m ([.ref (ad 15), .int (nI k)] : List Value).toArray below meth c 0 0 (MQ below (va_Qi (fun (r : Int32) (μ' : Mem) => r = trS (μ 3) n k ∧ ∃ F, μ' = mset μ 17 F) (fun μ' t => PreW D ad cI cL μ' t) (AW ad)) ([.ref (ad 15), .int (nI k)] : List Value).toArray s 0 0 (AW ad)) (AW ad) D ad cI cL 4 13 [some (.ref (ad 15)), some (.int (nI k)), some (.int (sumI (fun i => nI (ct (trE (μ 3) n k i))) i)), some (.int (nI i))] [] (mset μ 17 F) := by
    intro F hF
    refine dn_ind ?_ ?_
    · refine go_iload3 C (pc := 13) dX6_size_13 ?_
      refine go_bipush C (pc := 14) (v := 16) (by decide) dX6_size_14 ?_
      refine go_icmp_ge C (pc := 16) (tgt := 39) dX6_size_16 (by decide) (fun h16 => ?_) (fun h16 => ?_)
      · refine go_iload2 C (pc := 39) dX6_size_39 ?_
        refine go_iconst C (pc := 40) (v := 2) (by decide) dX6_size_40 ?_
        refine go_idiv C (pc := 41) (by decide) dX6_size_41 ?_
        exact go_iret C hr dX6_size_42 (⟨rfl, F, rfl⟩)
      · exact absurd (cnt_le nI16 (Nat.le_refl _) (by omega)) h16
    · intro i hi ih
      refine go_iload3 C (pc := 13) dX6_size_13 ?_
      refine go_bipush C (pc := 14) (v := 16) (by decide) dX6_size_14 ?_
      refine go_icmp_ge C (pc := 16) (tgt := 39) dX6_size_16 (by decide) (fun h16 => ?_) (fun h16 => ?_)
      · exact absurd h16 (cnt_nle nI16 hi (by omega))
      · refine go_iload2 C (pc := 19) dX6_size_19 ?_
        refine go_aload0 C (pc := 20) dX6_size_20 ?_
        refine go_get C (pc := 21) 15 (by decide) rfl rfl 1 (by decide) rfl rfl hi_X6_size_RX6 lk_X6_size_14 dX6_size_21 ?_
        refine go_iload3 C (pc := 24) dX6_size_24 ?_
        refine go_ciV1 C (pc := 25) obj_16 (c_X3_atN C.fl C.ok _ 16 16 row_16 _  (by omega)) gX6_size_X3_at rfl rfl yok_X3_at ⟨rfl, rfl⟩ ⟨Nat.le_of_ble_eq_true rfl, Nat.le_of_ble_eq_true rfl⟩ (Nat.le_of_ble_eq_true rfl) ⟨Nat.zero_le _, Nat.zero_le _⟩ dX6_size_25 (fun r3 μ3 hc3 => ?_)
        obtain ⟨rfl, hm3⟩ := hc3
        replace hm3 := hm3.symm
        subst hm3
        refine go_top (y := F i) rfl ?_
        refine go_ciSN1 C (pc := 28) (host := "ThornCores") (c_X7_bitsN C.fl C.ok _ _ (hF.1.1.st hi)) gX6_size_X7_bits_n37 rfl (by decide +kernel) lw_X6_size_s_X7_bits lw_X6_size_i_X7_bits yok_X7_bits ⟨rfl, rfl⟩ ⟨Nat.le_of_ble_eq_true rfl, Nat.le_of_ble_eq_true rfl⟩ (Nat.le_of_ble_eq_true rfl) ⟨Nat.zero_le _, Nat.zero_le _⟩ dX6_size_28 (fun r4 μ4 hc4 => ?_)
        obtain ⟨rfl, hm4⟩ := hc4
        replace hm4 := hm4.symm
        subst hm4
        refine go_iadd C (pc := 31) dX6_size_31 ?_
        refine go_istore2 C (pc := 32) dX6_size_32 ?_
        refine go_iinc3 C (pc := 33) (v := 1) dX6_size_33 (by decide) ?_
        refine go_goto C (pc := 36) (tgt := 13) dX6_size_36 (by decide) ?_
        exact go_lv (by rw [nI_1, trE_eq hF hi]; rfl) ih
  refine go_aload0 C (pc := 0) dX6_size_0 ?_
  refine go_cvV0 C (pc := 1) obj_15 (c_X6_takeAllThorns C.fl C.ok _ ) gX6_size_X6_takeAllThorns rfl rfl yok_X6_takeAllThorns ⟨rfl, rfl⟩ ⟨Nat.le_of_ble_eq_true rfl, Nat.le_of_ble_eq_true rfl⟩ (Nat.le_of_ble_eq_true rfl) ⟨Nat.zero_le _, Nat.zero_le _⟩ dX6_size_1 (fun μ5 hc5 => ?_)
  subst hc5
  refine go_aload0 C (pc := 4) dX6_size_4 ?_
  refine go_iload1 C (pc := 5) dX6_size_5 ?_
  refine go_cvV1 C (pc := 6) obj_15 (c_X6_peel C.fl C.ok (mset μ 17 (cpN (μ 3) (μ 17) 16)) _ hc hT (by omega) (trI_cong (trI_0 hT) (fun i hi => cpN_in hi))) gX6_size_X6_peel rfl rfl yok_X6_peel ⟨rfl, rfl⟩ ⟨Nat.le_of_ble_eq_true rfl, Nat.le_of_ble_eq_true rfl⟩ (Nat.le_of_ble_eq_true rfl) ⟨Nat.zero_le _, Nat.zero_le _⟩ dX6_size_6 (fun μ6 hc6 => ?_)
  obtain ⟨F1, rfl, hF1⟩ := hc6
  replace hF1 : isTr (μ 3) n k F1 := hF1
  refine go_iconst C (pc := 9) (v := 0) (by decide) dX6_size_9 ?_
  refine go_istore2 C (pc := 10) dX6_size_10 ?_
  refine go_iconst C (pc := 11) (v := 0) (by decide) dX6_size_11 ?_
  refine go_istore3 C (pc := 12) dX6_size_12 ?_
  exact go_lv (by rw [nI_0]; rfl) (go_mem (by rw [mset_mset]) (key F1 hF1 0 (Nat.zero_le _)))

/-- the truss number counted upwards -/
theorem trN_up {th : Nat → Int32} {n i j : Nat} {pr : Int32} (hT : TV n pr th) (hi : i < 16) (hb : bt (th i) j = true) {k : Nat} (h1 : ∀ x, x ≤ k → bt (trE th n x i) j = true) (hk : k ≤ 15) (h2 : bt (trE th n (k + 1) i) j = false) : trN th n i j = k := by
  have a := (tr_iff hT hi hb hk).mp (h1 k (Nat.le_refl _))
  have b : trN th n i j ≤ 15 := topK_le _ _
  rcases Nat.lt_or_ge k (trN th n i j) with q | q
  · have := (tr_iff hT hi hb (k := k + 1) (by omega)).mpr (by omega)
    rw [h2] at this; cases this
  · omega
theorem yok_X6_numberByPeeling : yOK yX6_numberByPeeling 2 := by unfold yOK; decide +kernel
theorem hi_X6_numberByPeeling_RX6 : ∀ w ∈ wsX60, w ∈ wsX6_numberByPeeling := by decide +kernel
theorem lk_X6_numberByPeeling_14 : Cond.fieldLink RX6 14 "ThornCores$Trusses" "left" "LThornCores$Row;" ∈ wsX6_numberByPeeling := by decide +kernel
theorem lw_X6_numberByPeeling_s_X7_in : Cond.static yX7_in ∈ wsX6_numberByPeeling := by decide +kernel
theorem lw_X6_numberByPeeling_i_X7_in : Cond.initialized RX7 ∈ wsX6_numberByPeeling := by decide +kernel
set_option maxRecDepth 20000 in
set_option maxHeartbeats 4000000 in
theorem c_X6_numberByPeeling {l : Launch} {D : va_G} {ad : Nat → Nat} {cI cL : ClassId} (hfl : l.flags = flags0) (hok : adOK ad) (μ : Mem) (i j : Nat) {n : Nat} (hc : μ 1 0 = nI n) (hT : TV n (μ 1 1) (μ 3)) (hi : i < 16) (hj : j < 16) (hb : bt (μ 3 i) j = true) : CtI l D ad cI cL yX6_numberByPeeling wsX6_numberByPeeling (RM 4 86) [.ref (ad 15), .int (nI i), .int (nI j)] μ (fun (r : Int32) (μ' : Mem) => r = nI (trN (μ 3) n i j) ∧ ∃ F, μ' = mset μ 17 F) := by
  refine ct_i (cc := cX6_numberByPeeling) (maxL := 4) (own := RX6) .int hfl hok (by decide) rfl rfl rfl (Nat.le_of_ble_eq_true rfl) (fun p e s m below meth c C hr => ?_)
  refine go_lv (lv' := [some (.ref (ad 15)), some (.int (nI i)), some (.int (nI j)), none]) rfl ?_
  have key : ∀ k, k ≤ 15 → ∀ F, trI (μ 3) n (k + 1) F → (∀ x, x ≤ k → bt (trE (μ 3) n x i) j = true) → Go p l e (headSpec wsX6_numberByPeeling (RM 4 86)).room s m ([.ref (ad 15), .int (nI i), .int (nI j)] : List Value).toArray below meth c 0 0 (MQ below (va_Qi (fun (r : Int32) (μ' : Mem) => r = nI (trN (μ 3) n i j) ∧ ∃ F, μ' = mset μ 17 F) (fun μ' t => PreW D ad cI cL μ' t) (AW ad)) ([.ref (ad 15), .int (nI i), .int (nI j)] : List Value).toArray s 0 0 (AW ad)) (AW ad) D ad cI cL 4 6 [some (.ref (ad 15)), some (.int (nI i)), some (.int (nI j)), some (.int (nI k))] [] (mset μ 17 F) := by
    refine dn_ind ?_ ?_
    · intro F _ h
      have := tr_16 hT hi (j := j) (Nat.le_refl 15)
      rw [h 15 (Nat.le_refl _)] at this
      cases this
    · intro k hk ih F hF hx
      refine go_iload3 C (pc := 6) dX6_numberByPeeling_6 ?_
      refine go_bipush C (pc := 7) (v := 15) (by decide) dX6_numberByPeeling_7 ?_
      refine go_icmp_ge C (pc := 9) (tgt := 42) dX6_numberByPeeling_9 (by decide) (fun h9 => ?_) (fun h9 => ?_)
      · exact absurd h9 (by rw [show (15 : Int32) = nI 15 from by decide +kernel]; exact nI_ge hk (by omega))
      · refine go_aload0 C (pc := 12) dX6_numberByPeeling_12 ?_
        refine go_iload3 C (pc := 13) dX6_numberByPeeling_13 ?_
        refine go_iconst C (pc := 14) (v := 1) (by decide) dX6_numberByPeeling_14 ?_
        refine go_iadd C (pc := 15) dX6_numberByPeeling_15 ?_
        refine go_top (y := nI (k + 1)) (nI_1 k) ?_
        refine go_cvV1 C (pc := 16) obj_15 (c_X6_peel C.fl C.ok (mset μ 17 F) _ hc hT (by omega) hF) gX6_numberByPeeling_X6_peel rfl rfl yok_X6_peel ⟨rfl, rfl⟩ ⟨Nat.le_of_ble_eq_true rfl, Nat.le_of_ble_eq_true rfl⟩ (Nat.le_of_ble_eq_true rfl) ⟨Nat.zero_le _, Nat.zero_le _⟩ dX6_numberByPeeling_16 (fun μ2 hc2 => ?_)
        obtain ⟨F1, rfl, hF1⟩ := hc2
        replace hF1 : isTr (μ 3) n (k + 1) F1 := hF1
        refine go_aload0 C (pc := 19) dX6_numberByPeeling_19 ?_
        refine go_get C (pc := 20) 15 (by decide) rfl rfl 1 (by decide) rfl rfl hi_X6_numberByPeeling_RX6 lk_X6_numberByPeeling_14 dX6_numberByPeeling_20 ?_
        refine go_iload1 C (pc := 23) dX6_numberByPeeling_23 ?_
        refine go_ciV1 C (pc := 24) obj_16 (c_X3_atN C.fl C.ok _ 16 16 row_16 _  (by omega)) gX6_numberByPeeling_X3_at rfl rfl yok_X3_at ⟨rfl, rfl⟩ ⟨Nat.le_of_ble_eq_true rfl, Nat.le_of_ble_eq_true rfl⟩ (Nat.le_of_ble_eq_true rfl) ⟨Nat.zero_le _, Nat.zero_le _⟩ dX6_numberByPeeling_24 (fun r3 μ3 hc3 => ?_)
        obtain ⟨rfl, hm3⟩ := hc3
        replace hm3 := hm3.symm
        subst hm3
        refine go_top (y := F1 i) rfl ?_
        refine go_iload2 C (pc := 27) dX6_numberByPeeling_27 ?_
        refine go_ciSN2 C (pc := 28) (host := "ThornCores") (c_X7_inN C.fl C.ok _ _ _ (by omega)) gX6_numberByPeeling_X7_in_n40 rfl (by decide +kernel) lw_X6_numberByPeeling_s_X7_in lw_X6_numberByPeeling_i_X7_in yok_X7_in ⟨rfl, rfl⟩ ⟨Nat.le_of_ble_eq_true rfl, Nat.le_of_ble_eq_true rfl⟩ (Nat.le_of_ble_eq_true rfl) ⟨Nat.zero_le _, Nat.zero_le _⟩ dX6_numberByPeeling_28 (fun r4 μ4 hc4 => ?_)
        obtain ⟨rfl, hm4⟩ := hc4
        replace hm4 := hm4.symm
        subst hm4
        refine go_if_ne C (pc := 31) (tgt := 36) dX6_numberByPeeling_31 (by decide) (fun h31 => ?_) (fun h31 => ?_)
        · refine go_iinc3 C (pc := 36) (v := 1) dX6_numberByPeeling_36 (by decide) ?_
          refine go_goto C (pc := 39) (tgt := 6) dX6_numberByPeeling_39 (by decide) ?_
          exact go_lv (by rw [nI_1]) (go_mem (by rw [mset_mset]) (ih F1 (trI_mono (by omega) hF1.1) (up_next hx (by show bt (trE (μ 3) n (k + 1) i) j = true; rw [← trE_eq hF1 hi]; exact bneg h31))))
        · refine go_iload3 C (pc := 34) dX6_numberByPeeling_34 ?_
          exact go_iret C hr dX6_numberByPeeling_35 (⟨by rw [trN_up hT hi hb hx (by omega) (by rw [← trE_eq hF1 hi]; exact bpos h31)], F1, by rw [mset_mset]⟩)
  refine go_aload0 C (pc := 0) dX6_numberByPeeling_0 ?_
  refine go_cvV0 C (pc := 1) obj_15 (c_X6_takeAllThorns C.fl C.ok _ ) gX6_numberByPeeling_X6_takeAllThorns rfl rfl yok_X6_takeAllThorns ⟨rfl, rfl⟩ ⟨Nat.le_of_ble_eq_true rfl, Nat.le_of_ble_eq_true rfl⟩ (Nat.le_of_ble_eq_true rfl) ⟨Nat.zero_le _, Nat.zero_le _⟩ dX6_numberByPeeling_1 (fun μ6 hc6 => ?_)
  subst hc6
  refine go_iconst C (pc := 4) (v := 0) (by decide) dX6_numberByPeeling_4 ?_
  refine go_istore3 C (pc := 5) dX6_numberByPeeling_5 ?_
  exact go_lv (by rw [nI_0]) (key 0 (Nat.zero_le _) _ (trI_cong (trI_0 hT) (fun i hi => cpN_in hi)) (fun x h => by rw [show x = 0 by omega, tr_all hT hi]; exact hb))

