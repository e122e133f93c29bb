/-! ===== ThornCores$Trusses: the rounds ===== -/
theorem nI_at (i j : Nat) : nI i * 16 + nI j = nI (i * 16 + j) := by rw [nI16, pk_mul, nI_add]
theorem yok_X6_number : yOK yX6_number 2 := by unfold yOK; decide +kernel
theorem hi_X6_number_RX6 : ∀ w ∈ wsX60, w ∈ wsX6_number := by decide +kernel
theorem lk_X6_number_20 : Cond.fieldLink RX6 20 "ThornCores$Trusses" "numbers" "LThornCores$Row;" ∈ wsX6_number := by decide +kernel
set_option maxRecDepth 20000 in
set_option maxHeartbeats 4000000 in
theorem c_X6_number {l : Launch} {D : va_G} {ad : Nat → Nat} {cI cL : ClassId} (hfl : l.flags = flags0) (hok : adOK ad) (μ : Mem) (i j : Nat) (hi : i < 16) (hj : j < 16) : CtI l D ad cI cL yX6_number wsX6_number (RM 1 21) [.ref (ad 15), .int (nI i), .int (nI j)] μ (fun (r : Int32) (μ' : Mem) => r = μ 19 (i * 16 + j) ∧ μ' = μ) := by
  refine ct_i (cc := cX6_number) (maxL := 3) (own := RX6) .int hfl hok (by decide) rfl rfl rfl (Nat.le_of_ble_eq_true rfl) (fun p e s m below meth c C hr => ?_)
  refine go_lv (lv' := [some (.ref (ad 15)), some (.int (nI i)), some (.int (nI j))]) rfl ?_
  refine go_aload0 C (pc := 0) dX6_number_0 ?_
  refine go_get C (pc := 1) 15 (by decide) rfl rfl 2 (by decide) rfl rfl hi_X6_number_RX6 lk_X6_number_20 dX6_number_1 ?_
  refine go_iload1 C (pc := 4) dX6_number_4 ?_
  refine go_bipush C (pc := 5) (v := 16) (by decide) dX6_number_5 ?_
  refine go_imul C (pc := 7) dX6_number_7 ?_
  refine go_iload2 C (pc := 8) dX6_number_8 ?_
  refine go_iadd C (pc := 9) dX6_number_9 ?_
  refine go_top (y := nI (i * 16 + j)) (nI_at i j) ?_
  refine go_ciV1 C (pc := 10) obj_18 (c_X3_atN C.fl C.ok _ 18 256 row_18 _  (by omega)) gX6_number_X3_at rfl rfl yok_X3_at ⟨rfl, rfl⟩ ⟨Nat.le_of_ble_eq_true rfl, Nat.le_of_ble_eq_true rfl⟩ (Nat.le_of_ble_eq_true rfl) ⟨Nat.zero_le _, Nat.zero_le _⟩ dX6_number_10 (fun r1 μ1 hc1 => ?_)
  obtain ⟨rfl, hm1⟩ := hc1
  replace hm1 := hm1.symm
  subst hm1
  exact go_iret C hr dX6_number_13 (⟨rfl, rfl⟩)

theorem yok_X6_putNumber : yOK yX6_putNumber 3 := by unfold yOK; decide +kernel
theorem hi_X6_putNumber_RX6 : ∀ w ∈ wsX60, w ∈ wsX6_putNumber := by decide +kernel
theorem lk_X6_putNumber_20 : Cond.fieldLink RX6 20 "ThornCores$Trusses" "numbers" "LThornCores$Row;" ∈ wsX6_putNumber := by decide +kernel
set_option maxRecDepth 20000 in
set_option maxHeartbeats 4000000 in
theorem c_X6_putNumber {l : Launch} {D : va_G} {ad : Nat → Nat} {cI cL : ClassId} (hfl : l.flags = flags0) (hok : adOK ad) (μ : Mem) (i j : Nat) (v : Int32) (hi : i < 16) (hj : j < 16) : CtV l D ad cI cL yX6_putNumber wsX6_putNumber (RM 1 22) [.ref (ad 15), .int (nI i), .int (nI j), .int v] μ (fun (μ' : Mem) => μ' = mset μ 19 (up2 (μ 19) i j v)) := by
  refine ct_v (cc := cX6_putNumber) (maxL := 4) (own := RX6) hfl hok (by decide) rfl rfl rfl (Nat.le_of_ble_eq_true rfl) (fun p e s m below meth c C hr => ?_)
  refine go_lv (lv' := [some (.ref (ad 15)), some (.int (nI i)), some (.int (nI j)), some (.int v)]) rfl ?_
  refine go_aload0 C (pc := 0) dX6_putNumber_0 ?_
  refine go_get C (pc := 1) 15 (by decide) rfl rfl 2 (by decide) rfl rfl hi_X6_putNumber_RX6 lk_X6_putNumber_20 dX6_putNumber_1 ?_
  refine go_iload1 C (pc := 4) dX6_putNumber_4 ?_
  refine go_bipush C (pc := 5) (v := 16) (by decide) dX6_putNumber_5 ?_
  refine go_imul C (pc := 7) dX6_putNumber_7 ?_
  refine go_iload2 C (pc := 8) dX6_putNumber_8 ?_
  refine go_iadd C (pc := 9) dX6_putNumber_9 ?_
  refine go_top (y := nI (i * 16 + j)) (nI_at i j) ?_
  refine go_iload3 C (pc := 10) dX6_putNumber_10 ?_
  refine go_cvV2 C (pc := 11) obj_18 (c_X3_putN C.fl C.ok _ 18 256 row_18 _ _  (by omega)) gX6_putNumber_X3_put rfl rfl yok_X3_put ⟨rfl, rfl⟩ ⟨Nat.le_of_ble_eq_true rfl, Nat.le_of_ble_eq_true rfl⟩ (Nat.le_of_ble_eq_true rfl) ⟨Nat.zero_le _, Nat.zero_le _⟩ dX6_putNumber_11 (fun μ1 hc1 => ?_)
  replace hc1 := hc1.symm
  subst hc1
  refine go_aload0 C (pc := 14) dX6_putNumber_14 ?_
  refine go_get C (pc := 15) 15 (by decide) rfl rfl 2 (by decide) rfl rfl hi_X6_putNumber_RX6 lk_X6_putNumber_20 dX6_putNumber_15 ?_
  refine go_iload2 C (pc := 18) dX6_putNumber_18 ?_
  refine go_bipush C (pc := 19) (v := 16) (by decide) dX6_putNumber_19 ?_
  refine go_imul C (pc := 21) dX6_putNumber_21 ?_
  refine go_iload1 C (pc := 22) dX6_putNumber_22 ?_
  refine go_iadd C (pc := 23) dX6_putNumber_23 ?_
  refine go_top (y := nI (j * 16 + i)) (nI_at j i) ?_
  refine go_iload3 C (pc := 24) dX6_putNumber_24 ?_
  refine go_cvV2 C (pc := 25) obj_18 (c_X3_putN C.fl C.ok _ 18 256 row_18 _ _  (by omega)) gX6_putNumber_X3_put rfl rfl yok_X3_put ⟨rfl, rfl⟩ ⟨Nat.le_of_ble_eq_true rfl, Nat.le_of_ble_eq_true rfl⟩ (Nat.le_of_ble_eq_true rfl) ⟨Nat.zero_le _, Nat.zero_le _⟩ dX6_putNumber_25 (fun μ2 hc2 => ?_)
  replace hc2 := hc2.symm
  subst hc2
  exact go_vret C hr dX6_putNumber_28 (by exact mset_mset μ 19 _ _)

theorem yok_X6_trianglesFrom : yOK yX6_trianglesFrom 3 := by unfold yOK; decide +kernel
theorem hi_X6_trianglesFrom_RX6 : ∀ w ∈ wsX60, w ∈ wsX6_trianglesFrom := by decide +kernel
theorem lk_X6_trianglesFrom_23 : Cond.fieldLink RX6 23 "ThornCores$Trusses" "thicket" "LThornCores$Thicket;" ∈ wsX6_trianglesFrom := by decide +kernel
theorem hi_X6_trianglesFrom_RX5 : ∀ w ∈ wsX50, w ∈ wsX6_trianglesFrom := by decide +kernel
theorem lw_X6_trianglesFrom_s_X7_in : Cond.static yX7_in ∈ wsX6_trianglesFrom := by decide +kernel
theorem lw_X6_trianglesFrom_i_X7_in : Cond.initialized RX7 ∈ wsX6_trianglesFrom := by decide +kernel
theorem lw_X6_trianglesFrom_l89 : Cond.methodLink RX6 89 Lib.Math.min.name ∈ wsX6_trianglesFrom := by decide +kernel
theorem lw_X6_trianglesFrom_s89 : Cond.static Lib.Math.min.name ∈ wsX6_trianglesFrom := by decide +kernel
theorem lw_X6_trianglesFrom_i89 : Cond.initialized "java/lang/Math" ∈ wsX6_trianglesFrom := by decide +kernel
theorem lw_X6_trianglesFrom_c89 : Cond.code Lib.Math.min.name Lib.Math.min.code 2 (some .int) ∈ wsX6_trianglesFrom := by decide +kernel
set_option maxRecDepth 20000 in
set_option maxHeartbeats 4000000 in
theorem c_X6_trianglesFrom {l : Launch} {D : va_G} {ad : Nat → Nat} {cI cL : ClassId} (hfl : l.flags = flags0) (hok : adOK ad) (μ : Mem) (i j h : Nat) {n : Nat} (hc : μ 1 0 = nI n) (hT : TV n (μ 1 1) (μ 3)) (g : Nat → Nat → Nat) (hg : numT (μ 3) (μ 19) g) (hi : i < 16) (hb : bt (μ 3 i) j = true) (hh : h ≤ 15) : CtI l D ad cI cL yX6_trianglesFrom wsX6_trianglesFrom (RM 2 43) [.ref (ad 15), .int (nI i), .int (nI j), .int (nI h)] μ (fun (r : Int32) (μ' : Mem) => r = nI (tfN (μ 3) g i j h n) ∧ μ' = μ) := by
  refine ct_i (cc := cX6_trianglesFrom) (maxL := 7) (own := RX6) .int hfl hok (by decide) rfl rfl rfl (Nat.le_of_ble_eq_true rfl) (fun p e s m below meth c C hr => ?_)
  refine go_lv (lv' := [some (.ref (ad 15)), some (.int (nI i)), some (.int (nI j)), some (.int (nI h)), none, none, none]) rfl ?_
  have hn := hT.1
  obtain ⟨-, -, -, hj⟩ := edge_lt hT hi hb
  have key : ∀ t, t ≤ n → Go p l e (headSpec wsX6_trianglesFrom (RM 2 43)).room s m ([.ref (ad 15), .int (nI i), .int (nI j), .int (nI h)] : List Value).toArray below meth c 0 0 (MQ below (va_Qi (fun (r : Int32) (μ' : Mem) => r = nI (tfN (μ 3) g i j h n) ∧ μ' = μ) (fun μ' t => PreW D ad cI cL μ' t) (AW ad)) ([.ref (ad 15), .int (nI i), .int (nI j), .int (nI h)] : List Value).toArray s 0 0 (AW ad)) (AW ad) D ad cI cL 7 17 [some (.ref (ad 15)), some (.int (nI i)), some (.int (nI j)), some (.int (nI h)), some (.int (nI (tfN (μ 3) g i j h t))), some (.int (μ 3 i &&& μ 3 j)), some (.int (nI t))] [] (μ) := by
    refine dn_ind ?_ ?_
    · refine go_iload6 C (pc := 17) dX6_trianglesFrom_17 ?_
      refine go_aload0 C (pc := 19) dX6_trianglesFrom_19 ?_
      refine go_get C (pc := 20) 15 (by decide) rfl rfl 0 (by decide) rfl rfl hi_X6_trianglesFrom_RX6 lk_X6_trianglesFrom_23 dX6_trianglesFrom_20 ?_
      refine go_getN C (pc := 23) 1 (by decide) rfl rfl 0 (by decide) rfl rfl hi_X6_trianglesFrom_RX5 (host := "ThornCores") (by decide +kernel) dX6_trianglesFrom_23 ?_
      refine go_icmp_ge C (pc := 26) (tgt := 69) dX6_trianglesFrom_26 (by decide) (fun h26 => ?_) (fun h26 => ?_)
      · refine go_iload4 C (pc := 69) dX6_trianglesFrom_69 ?_
        exact go_iret C hr dX6_trianglesFrom_71 (⟨rfl, rfl⟩)
      · exact absurd (cnt_le hc (Nat.le_refl _) (by omega)) h26
    · intro t ht ih
      refine go_iload6 C (pc := 17) dX6_trianglesFrom_17 ?_
      refine go_aload0 C (pc := 19) dX6_trianglesFrom_19 ?_
      refine go_get C (pc := 20) 15 (by decide) rfl rfl 0 (by decide) rfl rfl hi_X6_trianglesFrom_RX6 lk_X6_trianglesFrom_23 dX6_trianglesFrom_20 ?_
      refine go_getN C (pc := 23) 1 (by decide) rfl rfl 0 (by decide) rfl rfl hi_X6_trianglesFrom_RX5 (host := "ThornCores") (by decide +kernel) dX6_trianglesFrom_23 ?_
      refine go_icmp_ge C (pc := 26) (tgt := 69) dX6_trianglesFrom_26 (by decide) (fun h26 => ?_) (fun h26 => ?_)
      · exact absurd h26 (cnt_nle hc ht (by omega))
      · refine go_iload5 C (pc := 29) dX6_trianglesFrom_29 ?_
        refine go_iload6 C (pc := 31) dX6_trianglesFrom_31 ?_
        refine go_ciSN2 C (pc := 33) (host := "ThornCores") (c_X7_inN C.fl C.ok _ _ _ (by omega)) gX6_trianglesFrom_X7_in_n40 rfl (by decide +kernel) lw_X6_trianglesFrom_s_X7_in lw_X6_trianglesFrom_i_X7_in yok_X7_in ⟨rfl, rfl⟩ ⟨Nat.le_of_ble_eq_true rfl, Nat.le_of_ble_eq_true rfl⟩ (Nat.le_of_ble_eq_true rfl) ⟨Nat.zero_le _, Nat.zero_le _⟩ dX6_trianglesFrom_33 (fun r3 μ3 hc3 => ?_)
        obtain ⟨rfl, hm3⟩ := hc3
        replace hm3 := hm3.symm
        subst hm3
        refine go_if_eq C (pc := 36) (tgt := 63) dX6_trianglesFrom_36 (by decide) (fun h36 => ?_) (fun h36 => ?_)
        · refine go_iinc6 C (pc := 63) (v := 1) dX6_trianglesFrom_63 (by decide) ?_
          refine go_goto C (pc := 66) (tgt := 17) dX6_trianglesFrom_66 (by decide) ?_
          exact go_lv (by rw [nI_1]; exact congrArg (fun z => [_, _, _, _, some (Value.int (nI z)), _, _]) (show _ = fb_ct _ (t + 1) from by rw [fb_ct_succ, if_neg (by rw [bpos h36, Bool.false_and]; decide)]; rfl)) ih
        · have hbt : bt (μ 3 i &&& μ 3 j) t = true := bneg h36
          rw [b_and, Bool.and_eq_true] at hbt
          have g1 := hg i t hi hbt.1
          have g2 := hg j t hj hbt.2
          refine go_aload0 C (pc := 39) dX6_trianglesFrom_39 ?_
          refine go_iload1 C (pc := 40) dX6_trianglesFrom_40 ?_
          refine go_iload6 C (pc := 41) dX6_trianglesFrom_41 ?_
          refine go_ciV2 C (pc := 43) obj_15 (c_X6_number C.fl C.ok _ _ _ (by omega) (by omega)) gX6_trianglesFrom_X6_number rfl rfl yok_X6_number ⟨rfl, rfl⟩ ⟨Nat.le_of_ble_eq_true rfl, Nat.le_of_ble_eq_true rfl⟩ (Nat.le_of_ble_eq_true rfl) ⟨Nat.zero_le _, Nat.zero_le _⟩ dX6_trianglesFrom_43 (fun r5 μ5 hc5 => ?_)
          obtain ⟨rfl, hm5⟩ := hc5
          replace hm5 := hm5.symm
          subst hm5
          refine go_aload0 C (pc := 46) dX6_trianglesFrom_46 ?_
          refine go_iload2 C (pc := 47) dX6_trianglesFrom_47 ?_
          refine go_iload6 C (pc := 48) dX6_trianglesFrom_48 ?_
          refine go_ciV2 C (pc := 50) obj_15 (c_X6_number C.fl C.ok _ _ _ (by omega) (by omega)) gX6_trianglesFrom_X6_number rfl rfl yok_X6_number ⟨rfl, rfl⟩ ⟨Nat.le_of_ble_eq_true rfl, Nat.le_of_ble_eq_true rfl⟩ (Nat.le_of_ble_eq_true rfl) ⟨Nat.zero_le _, Nat.zero_le _⟩ dX6_trianglesFrom_50 (fun r6 μ6 hc6 => ?_)
          obtain ⟨rfl, hm6⟩ := hc6
          replace hm6 := hm6.symm
          subst hm6
          refine go_mmin C (pc := 53) lw_X6_trianglesFrom_l89 lw_X6_trianglesFrom_s89 lw_X6_trianglesFrom_i89 lw_X6_trianglesFrom_c89 (Nat.le_of_ble_eq_true rfl) (by decide) ⟨Nat.le_refl _, Nat.le_refl _⟩ dX6_trianglesFrom_53 ?_
          refine go_iload3 C (pc := 56) dX6_trianglesFrom_56 ?_
          refine go_icmp_lt C (pc := 57) (tgt := 63) dX6_trianglesFrom_57 (by decide) (fun h57 => ?_) (fun h57 => ?_)
          · refine go_iinc6 C (pc := 63) (v := 1) dX6_trianglesFrom_63 (by decide) ?_
            refine go_goto C (pc := 66) (tgt := 17) dX6_trianglesFrom_66 (by decide) ?_
            rw [g1.1, g2.1, min_lt g1.2 g2.2 hh] at h57
            exact go_lv (by rw [nI_1]; exact congrArg (fun z => [_, _, _, _, some (Value.int (nI z)), _, _]) (show _ = fb_ct _ (t + 1) from by rw [fb_ct_succ, if_neg (by simp; intro _ q; omega)]; rfl)) ih
          · refine go_iinc4 C (pc := 60) (v := 1) dX6_trianglesFrom_60 (by decide) ?_
            refine go_iinc6 C (pc := 63) (v := 1) dX6_trianglesFrom_63 (by decide) ?_
            refine go_goto C (pc := 66) (tgt := 17) dX6_trianglesFrom_66 (by decide) ?_
            rw [g1.1, g2.1, min_lt g1.2 g2.2 hh, Classical.not_not] at h57
            exact go_lv (by rw [nI_1, nI_1]; exact congrArg (fun z => [_, _, _, _, some (Value.int (nI z)), _, _]) (show _ = fb_ct _ (t + 1) from by rw [fb_ct_succ, if_pos (by rw [b_and, hbt.1, hbt.2]; simp; omega)]; rfl)) ih
  refine go_iconst C (pc := 0) (v := 0) (by decide) dX6_trianglesFrom_0 ?_
  refine go_istore4 C (pc := 1) dX6_trianglesFrom_1 ?_
  refine go_aload0 C (pc := 3) dX6_trianglesFrom_3 ?_
  refine go_get C (pc := 4) 15 (by decide) rfl rfl 0 (by decide) rfl rfl hi_X6_trianglesFrom_RX6 lk_X6_trianglesFrom_23 dX6_trianglesFrom_4 ?_
  refine go_iload1 C (pc := 7) dX6_trianglesFrom_7 ?_
  refine go_iload2 C (pc := 8) dX6_trianglesFrom_8 ?_
  refine go_ciV2 C (pc := 9) obj_1 (c_X5_aroundBothN C.fl C.ok _ _ _ hi hj) gX6_trianglesFrom_X5_aroundBoth rfl rfl yok_X5_aroundBoth ⟨rfl, rfl⟩ ⟨Nat.le_of_ble_eq_true rfl, Nat.le_of_ble_eq_true rfl⟩ (Nat.le_of_ble_eq_true rfl) ⟨Nat.zero_le _, Nat.zero_le _⟩ dX6_trianglesFrom_9 (fun r8 μ8 hc8 => ?_)
  obtain ⟨rfl, hm8⟩ := hc8
  replace hm8 := hm8.symm
  subst hm8
  refine go_istore5 C (pc := 12) dX6_trianglesFrom_12 ?_
  refine go_iconst C (pc := 14) (v := 0) (by decide) dX6_trianglesFrom_14 ?_
  refine go_istore6 C (pc := 15) dX6_trianglesFrom_15 ?_
  exact go_lv (by rw [nI_0]; rfl) (key 0 (Nat.zero_le _))

theorem yok_X6_greatestHeld : yOK yX6_greatestHeld 2 := by unfold yOK; decide +kernel
set_option maxRecDepth 20000 in
set_option maxHeartbeats 4000000 in
theorem c_X6_greatestHeld {l : Launch} {D : va_G} {ad : Nat → Nat} {cI cL : ClassId} (hfl : l.flags = flags0) (hok : adOK ad) (μ : Mem) (i j : Nat) {n : Nat} (hc : μ 1 0 = nI n) (hT : TV n (μ 1 1) (μ 3)) (g : Nat → Nat → Nat) (hg : numT (μ 3) (μ 19) g) (hi : i < 16) (hb : bt (μ 3 i) j = true) : CtI l D ad cI cL yX6_greatestHeld wsX6_greatestHeld (RM 3 69) [.ref (ad 15), .int (nI i), .int (nI j)] μ (fun (r : Int32) (μ' : Mem) => r = nI (ghT (μ 3) g n i j) ∧ μ' = μ) := by
  refine ct_i (cc := cX6_greatestHeld) (maxL := 4) (own := RX6) .int hfl hok (by decide) rfl rfl rfl (Nat.le_of_ble_eq_true rfl) (fun p e s m below meth c C hr => ?_)
  refine go_lv (lv' := [some (.ref (ad 15)), some (.int (nI i)), some (.int (nI j)), none]) rfl ?_
  have hn := hT.1
  have h15 := (hg i j hi hb).2
  obtain ⟨-, -, -, hj⟩ := edge_lt hT hi hb
  have key : ∀ k, k ≤ g i j → topK (fun h => decide (h ≤ tfN (μ 3) g i j h n)) (g i j) = topK (fun h => decide (h ≤ tfN (μ 3) g i j h n)) k → Go p l e (headSpec wsX6_greatestHeld (RM 3 69)).room s m ([.ref (ad 15), .int (nI i), .int (nI j)] : List Value).toArray below meth c 0 0 (MQ below (va_Qi (fun (r : Int32) (μ' : Mem) => r = nI (ghT (μ 3) g n i j) ∧ μ' = μ) (fun μ' t => PreW D ad cI cL μ' t) (AW ad)) ([.ref (ad 15), .int (nI i), .int (nI j)] : List Value).toArray s 0 0 (AW ad)) (AW ad) D ad cI cL 4 7 [some (.ref (ad 15)), some (.int (nI i)), some (.int (nI j)), some (.int (nI k))] [] (μ) := by
    intro k
    induction k with
    | zero =>
      intro _ htop
      refine go_iload3 C (pc := 7) dX6_greatestHeld_7 ?_
      refine go_if_le C (pc := 8) (tgt := 30) dX6_greatestHeld_8 (by decide) (fun h8 => ?_) (fun h8 => ?_)
      · refine go_iconst C (pc := 30) (v := 0) (by decide) dX6_greatestHeld_30 ?_
        exact go_iret C hr dX6_greatestHeld_31 (⟨by rw [ghT, htop, topK, nI_0], rfl⟩)
      · exact absurd zle h8
    | succ k ih =>
      intro hk htop
      have hnf : tfN (μ 3) g i j (k + 1) n ≤ n := fb_ct_le _ _
      refine go_iload3 C (pc := 7) dX6_greatestHeld_7 ?_
      refine go_if_le C (pc := 8) (tgt := 30) dX6_greatestHeld_8 (by decide) (fun h8 => ?_) (fun h8 => ?_)
      · exact (pos_le (by omega) (by omega) h8).elim
      · refine go_aload0 C (pc := 11) dX6_greatestHeld_11 ?_
        refine go_iload1 C (pc := 12) dX6_greatestHeld_12 ?_
        refine go_iload2 C (pc := 13) dX6_greatestHeld_13 ?_
        refine go_iload3 C (pc := 14) dX6_greatestHeld_14 ?_
        refine go_ciV3 C (pc := 15) obj_15 (c_X6_trianglesFrom C.fl C.ok _ _ _ _ hc hT g hg hi hb (by omega)) gX6_greatestHeld_X6_trianglesFrom rfl rfl yok_X6_trianglesFrom ⟨rfl, rfl⟩ ⟨Nat.le_of_ble_eq_true rfl, Nat.le_of_ble_eq_true rfl⟩ (Nat.le_of_ble_eq_true rfl) ⟨Nat.zero_le _, Nat.zero_le _⟩ dX6_greatestHeld_15 (fun r3 μ3 hc3 => ?_)
        obtain ⟨rfl, hm3⟩ := hc3
        replace hm3 := hm3.symm
        subst hm3
        refine go_iload3 C (pc := 18) dX6_greatestHeld_18 ?_
        refine go_icmp_lt C (pc := 19) (tgt := 24) dX6_greatestHeld_19 (by decide) (fun h19 => ?_) (fun h19 => ?_)
        · refine go_iinc3 C (pc := 24) (v := -1) dX6_greatestHeld_24 (by decide) ?_
          refine go_goto C (pc := 27) (tgt := 7) dX6_greatestHeld_27 (by decide) ?_
          exact go_lv (by rw [pk_m1]) (ih (by omega) (by rw [htop, topK, if_neg (by have := nlt (by omega) (by omega) h19; simp; omega)]))
        · refine go_iload3 C (pc := 22) dX6_greatestHeld_22 ?_
          exact go_iret C hr dX6_greatestHeld_23 (⟨by rw [ghT, htop, topK, if_pos (by have := nle (by omega) (by omega) h19; simp; omega)], rfl⟩)
  refine go_aload0 C (pc := 0) dX6_greatestHeld_0 ?_
  refine go_iload1 C (pc := 1) dX6_greatestHeld_1 ?_
  refine go_iload2 C (pc := 2) dX6_greatestHeld_2 ?_
  refine go_ciV2 C (pc := 3) obj_15 (c_X6_number C.fl C.ok _ _ _ hi hj) gX6_greatestHeld_X6_number rfl rfl yok_X6_number ⟨rfl, rfl⟩ ⟨Nat.le_of_ble_eq_true rfl, Nat.le_of_ble_eq_true rfl⟩ (Nat.le_of_ble_eq_true rfl) ⟨Nat.zero_le _, Nat.zero_le _⟩ dX6_greatestHeld_3 (fun r5 μ5 hc5 => ?_)
  obtain ⟨rfl, hm5⟩ := hc5
  replace hm5 := hm5.symm
  subst hm5
  refine go_istore3 C (pc := 6) dX6_greatestHeld_6 ?_
  exact go_lv (by rw [(hg i j hi hb).1]) (key (g i j) (Nat.le_refl _) rfl)

theorem yok_X6_lowerNumbers : yOK yX6_lowerNumbers 0 := by unfold yOK; decide +kernel
theorem hi_X6_lowerNumbers_RX6 : ∀ w ∈ wsX60, w ∈ wsX6_lowerNumbers := by decide +kernel
theorem lk_X6_lowerNumbers_23 : Cond.fieldLink RX6 23 "ThornCores$Trusses" "thicket" "LThornCores$Thicket;" ∈ wsX6_lowerNumbers := by decide +kernel
theorem hi_X6_lowerNumbers_RX5 : ∀ w ∈ wsX50, w ∈ wsX6_lowerNumbers := by decide +kernel
set_option maxRecDepth 20000 in
set_option maxHeartbeats 4000000 in
theorem c_X6_lowerNumbers {l : Launch} {D : va_G} {ad : Nat → Nat} {cI cL : ClassId} (hfl : l.flags = flags0) (hok : adOK ad) (μ : Mem) {n : Nat} (hc : μ 1 0 = nI n) (hT : TV n (μ 1 1) (μ 3)) (g : Nat → Nat → Nat) (hg : numT (μ 3) (μ 19) g) (hI : rdT (μ 3) n g) : CtI l D ad cI cL yX6_lowerNumbers wsX6_lowerNumbers (RM 4 92) [.ref (ad 15)] μ (fun (r : Int32) (μ' : Mem) => ∃ F g', μ' = mset μ 19 F ∧ numT (μ 3) F g' ∧ rdT (μ 3) n g' ∧ ((r = 0 ∧ g' = g ∧ ∀ a b, a < 16 → bt (μ 3 a) b = true → ghT (μ 3) g n a b = g a b) ∨ (r = 1 ∧ sT (μ 3) g' < sT (μ 3) g))) := by
  refine ct_i (cc := cX6_lowerNumbers) (maxL := 5) (own := RX6) .boolean hfl hok (by decide) rfl rfl rfl (Nat.le_of_ble_eq_true rfl) (fun p e s m below meth c C hr => ?_)
  refine go_lv (lv' := [some (.ref (ad 15)), none, none, none, none]) rfl ?_
  have hn := hT.1
  have key : ∀ i, i ≤ n → ∀ F g1 r, lwI (μ 3) n g F g1 r i (i + 1) → Go p l e (headSpec wsX6_lowerNumbers (RM 4 92)).room s m ([.ref (ad 15)] : List Value).toArray below meth c 0 0 (MQ below (va_Qi (fun (r : Int32) (μ' : Mem) => ∃ F g', μ' = mset μ 19 F ∧ numT (μ 3) F g' ∧ rdT (μ 3) n g' ∧ ((r = 0 ∧ g' = g ∧ ∀ a b, a < 16 → bt (μ 3 a) b = true → ghT (μ 3) g n a b = g a b) ∨ (r = 1 ∧ sT (μ 3) g' < sT (μ 3) g))) (fun μ' t => PreW D ad cI cL μ' t) (AW ad)) ([.ref (ad 15)] : List Value).toArray s 0 0 (AW ad)) (AW ad) D ad cI cL 5 4 [some (.ref (ad 15)), some (.int r), some (.int (nI i)), none, none] [] (mset μ 19 F) := by
    refine dn_ind ?_ ?_
    · intro F g1 r hF
      refine go_iload2 C (pc := 4) dX6_lowerNumbers_4 ?_
      refine go_aload0 C (pc := 5) dX6_lowerNumbers_5 ?_
      refine go_get C (pc := 6) 15 (by decide) rfl rfl 0 (by decide) rfl rfl hi_X6_lowerNumbers_RX6 lk_X6_lowerNumbers_23 dX6_lowerNumbers_6 ?_
      refine go_getN C (pc := 9) 1 (by decide) rfl rfl 0 (by decide) rfl rfl hi_X6_lowerNumbers_RX5 (host := "ThornCores") (by decide +kernel) dX6_lowerNumbers_9 ?_
      refine go_icmp_ge C (pc := 12) (tgt := 91) dX6_lowerNumbers_12 (by decide) (fun h12 => ?_) (fun h12 => ?_)
      · refine go_iload1 C (pc := 91) dX6_lowerNumbers_91 ?_
        exact go_zret C hr dX6_lowerNumbers_92 (lw_01 hF) ⟨F, g1, rfl, lw_end hT hF⟩
      · exact absurd (cnt_le hc (Nat.le_refl _) (by omega)) h12
    · intro i hi ih
      have key2 : ∀ j, j ≤ n → i < j → ∀ F g1 r, lwI (μ 3) n g F g1 r i j → Go p l e (headSpec wsX6_lowerNumbers (RM 4 92)).room s m ([.ref (ad 15)] : List Value).toArray below meth c 0 0 (MQ below (va_Qi (fun (r : Int32) (μ' : Mem) => ∃ F g', μ' = mset μ 19 F ∧ numT (μ 3) F g' ∧ rdT (μ 3) n g' ∧ ((r = 0 ∧ g' = g ∧ ∀ a b, a < 16 → bt (μ 3 a) b = true → ghT (μ 3) g n a b = g a b) ∨ (r = 1 ∧ sT (μ 3) g' < sT (μ 3) g))) (fun μ' t => PreW D ad cI cL μ' t) (AW ad)) ([.ref (ad 15)] : List Value).toArray s 0 0 (AW ad)) (AW ad) D ad cI cL 5 19 [some (.ref (ad 15)), some (.int r), some (.int (nI i)), some (.int (nI j)), none] [] (mset μ 19 F) := by
        refine dn_ind ?_ ?_
        · intro hij F g1 r hF
          refine go_iload3 C (pc := 19) dX6_lowerNumbers_19 ?_
          refine go_aload0 C (pc := 20) dX6_lowerNumbers_20 ?_
          refine go_get C (pc := 21) 15 (by decide) rfl rfl 0 (by decide) rfl rfl hi_X6_lowerNumbers_RX6 lk_X6_lowerNumbers_23 dX6_lowerNumbers_21 ?_
          refine go_getN C (pc := 24) 1 (by decide) rfl rfl 0 (by decide) rfl rfl hi_X6_lowerNumbers_RX5 (host := "ThornCores") (by decide +kernel) dX6_lowerNumbers_24 ?_
          refine go_icmp_ge C (pc := 27) (tgt := 85) dX6_lowerNumbers_27 (by decide) (fun h27 => ?_) (fun h27 => ?_)
          · refine go_iinc2 C (pc := 85) (v := 1) dX6_lowerNumbers_85 (by decide) ?_
            refine go_goto C (pc := 88) (tgt := 4) dX6_lowerNumbers_88 (by decide) ?_
            exact go_drop3 (go_lv (by rw [nI_1]) (ih F g1 r (lw_row hF)))
          · exact absurd (cnt_le hc (Nat.le_refl _) (by omega)) h27
        · intro j hj ih2 hij F g1 r hF
          refine go_iload3 C (pc := 19) dX6_lowerNumbers_19 ?_
          refine go_aload0 C (pc := 20) dX6_lowerNumbers_20 ?_
          refine go_get C (pc := 21) 15 (by decide) rfl rfl 0 (by decide) rfl rfl hi_X6_lowerNumbers_RX6 lk_X6_lowerNumbers_23 dX6_lowerNumbers_21 ?_
          refine go_getN C (pc := 24) 1 (by decide) rfl rfl 0 (by decide) rfl rfl hi_X6_lowerNumbers_RX5 (host := "ThornCores") (by decide +kernel) dX6_lowerNumbers_24 ?_
          refine go_icmp_ge C (pc := 27) (tgt := 85) dX6_lowerNumbers_27 (by decide) (fun h27 => ?_) (fun h27 => ?_)
          · exact absurd h27 (cnt_nle hc hj (by omega))
          · refine go_aload0 C (pc := 30) dX6_lowerNumbers_30 ?_
            refine go_get C (pc := 31) 15 (by decide) rfl rfl 0 (by decide) rfl rfl hi_X6_lowerNumbers_RX6 lk_X6_lowerNumbers_23 dX6_lowerNumbers_31 ?_
            refine go_iload2 C (pc := 34) dX6_lowerNumbers_34 ?_
            refine go_iload3 C (pc := 35) dX6_lowerNumbers_35 ?_
            refine go_ciV2 C (pc := 36) obj_1 (c_X5_isBoundN C.fl C.ok (mset μ 19 F) _ _ hc hT (by omega) (by omega)) gX6_lowerNumbers_X5_isBound rfl rfl yok_X5_isBound ⟨rfl, rfl⟩ ⟨Nat.le_of_ble_eq_true rfl, Nat.le_of_ble_eq_true rfl⟩ (Nat.le_of_ble_eq_true rfl) ⟨Nat.zero_le _, Nat.zero_le _⟩ dX6_lowerNumbers_36 (fun r4 μ4 hc4 => ?_)
            obtain ⟨rfl, hm4⟩ := hc4
            replace hm4 := hm4.symm
            subst hm4
            refine go_top (y := b2i (bt (μ 3 i) j)) rfl ?_
            refine go_if_eq C (pc := 39) (tgt := 79) dX6_lowerNumbers_39 (by decide) (fun h39 => ?_) (fun h39 => ?_)
            · refine go_iinc3 C (pc := 79) (v := 1) dX6_lowerNumbers_79 (by decide) ?_
              refine go_goto C (pc := 82) (tgt := 19) dX6_lowerNumbers_82 (by decide) ?_
              exact go_lv (by rw [nI_1]) (ih2 (by omega) F g1 r (lw_skip hF (bpos h39)))
            · refine go_aload0 C (pc := 42) dX6_lowerNumbers_42 ?_
              refine go_iload2 C (pc := 43) dX6_lowerNumbers_43 ?_
              refine go_iload3 C (pc := 44) dX6_lowerNumbers_44 ?_
              refine go_ciV2 C (pc := 45) obj_15 (c_X6_greatestHeld C.fl C.ok (mset μ 19 F) _ _ hc hT g1 hF.1 (by omega) (bneg h39)) gX6_lowerNumbers_X6_greatestHeld rfl rfl yok_X6_greatestHeld ⟨rfl, rfl⟩ ⟨Nat.le_of_ble_eq_true rfl, Nat.le_of_ble_eq_true rfl⟩ (Nat.le_of_ble_eq_true rfl) ⟨Nat.zero_le _, Nat.zero_le _⟩ dX6_lowerNumbers_45 (fun r6 μ6 hc6 => ?_)
              obtain ⟨rfl, hm6⟩ := hc6
              replace hm6 := hm6.symm
              subst hm6
              refine go_top (y := nI (ghT (μ 3) g1 n i j)) rfl ?_
              refine go_istore4 C (pc := 48) dX6_lowerNumbers_48 ?_
              refine go_iload1 C (pc := 50) dX6_lowerNumbers_50 ?_
              refine go_if_ne C (pc := 51) (tgt := 65) dX6_lowerNumbers_51 (by decide) (fun h51 => ?_) (fun h51 => ?_)
              · refine go_iconst C (pc := 65) (v := 1) (by decide) dX6_lowerNumbers_65 ?_
                refine go_goto C (pc := 66) (tgt := 70) dX6_lowerNumbers_66 (by decide) ?_
                refine go_istore1 C (pc := 70) dX6_lowerNumbers_70 ?_
                refine go_aload0 C (pc := 71) dX6_lowerNumbers_71 ?_
                refine go_iload2 C (pc := 72) dX6_lowerNumbers_72 ?_
                refine go_iload3 C (pc := 73) dX6_lowerNumbers_73 ?_
                refine go_iload4 C (pc := 74) dX6_lowerNumbers_74 ?_
                refine go_cvV3 C (pc := 76) obj_15 (c_X6_putNumber C.fl C.ok _ _ _ _ (by omega) (by omega)) gX6_lowerNumbers_X6_putNumber rfl rfl yok_X6_putNumber ⟨rfl, rfl⟩ ⟨Nat.le_of_ble_eq_true rfl, Nat.le_of_ble_eq_true rfl⟩ (Nat.le_of_ble_eq_true rfl) ⟨Nat.zero_le _, Nat.zero_le _⟩ dX6_lowerNumbers_76 (fun μ8 hc8 => ?_)
                replace hc8 := hc8.symm
                subst hc8
                refine go_iinc3 C (pc := 79) (v := 1) dX6_lowerNumbers_79 (by decide) ?_
                refine go_goto C (pc := 82) (tgt := 19) dX6_lowerNumbers_82 (by decide) ?_
                exact go_drop4 (go_lv (by rw [nI_1]) (go_mem (mset_mset μ 19 F _) (ih2 (by omega) _ _ 1 (lw_less hT hF (by omega) hij (bneg h39) (Or.inl ((lw_01 hF).resolve_left h51))))))
              · refine go_iload4 C (pc := 54) dX6_lowerNumbers_54 ?_
                refine go_aload0 C (pc := 56) dX6_lowerNumbers_56 ?_
                refine go_iload2 C (pc := 57) dX6_lowerNumbers_57 ?_
                refine go_iload3 C (pc := 58) dX6_lowerNumbers_58 ?_
                refine go_ciV2 C (pc := 59) obj_15 (c_X6_number C.fl C.ok _ _ _ (by omega) (by omega)) gX6_lowerNumbers_X6_number rfl rfl yok_X6_number ⟨rfl, rfl⟩ ⟨Nat.le_of_ble_eq_true rfl, Nat.le_of_ble_eq_true rfl⟩ (Nat.le_of_ble_eq_true rfl) ⟨Nat.zero_le _, Nat.zero_le _⟩ dX6_lowerNumbers_59 (fun r9 μ9 hc9 => ?_)
                obtain ⟨rfl, hm9⟩ := hc9
                replace hm9 := hm9.symm
                subst hm9
                refine go_top (y := F (i * 16 + j)) rfl ?_
                refine go_icmp_eq C (pc := 62) (tgt := 69) dX6_lowerNumbers_62 (by decide) (fun h62 => ?_) (fun h62 => ?_)
                · refine go_iconst C (pc := 69) (v := 0) (by decide) dX6_lowerNumbers_69 ?_
                  refine go_istore1 C (pc := 70) dX6_lowerNumbers_70 ?_
                  refine go_aload0 C (pc := 71) dX6_lowerNumbers_71 ?_
                  refine go_iload2 C (pc := 72) dX6_lowerNumbers_72 ?_
                  refine go_iload3 C (pc := 73) dX6_lowerNumbers_73 ?_
                  refine go_iload4 C (pc := 74) dX6_lowerNumbers_74 ?_
                  refine go_cvV3 C (pc := 76) obj_15 (c_X6_putNumber C.fl C.ok _ _ _ _ (by omega) (by omega)) gX6_lowerNumbers_X6_putNumber rfl rfl yok_X6_putNumber ⟨rfl, rfl⟩ ⟨Nat.le_of_ble_eq_true rfl, Nat.le_of_ble_eq_true rfl⟩ (Nat.le_of_ble_eq_true rfl) ⟨Nat.zero_le _, Nat.zero_le _⟩ dX6_lowerNumbers_76 (fun μ11 hc11 => ?_)
                  replace hc11 := hc11.symm
                  subst hc11
                  refine go_iinc3 C (pc := 79) (v := 1) dX6_lowerNumbers_79 (by decide) ?_
                  refine go_goto C (pc := 82) (tgt := 19) dX6_lowerNumbers_82 (by decide) ?_
                  subst h51
                  exact go_drop4 (go_lv (by rw [nI_1]) (go_mem (mset_mset μ 19 F _) (ih2 (by omega) _ _ 0 (lw_same hT hF (by omega) (bneg h39) (nI_inj3 (by have := gh_15 (n := n) hF.1 (show i < 16 by omega) (bneg h39); omega) (by have := (hF.1 i j (by omega) (bneg h39)).2; omega) (h62.trans (hF.1 i j (by omega) (bneg h39)).1))))))
                · refine go_iconst C (pc := 65) (v := 1) (by decide) dX6_lowerNumbers_65 ?_
                  refine go_goto C (pc := 66) (tgt := 70) dX6_lowerNumbers_66 (by decide) ?_
                  refine go_istore1 C (pc := 70) dX6_lowerNumbers_70 ?_
                  refine go_aload0 C (pc := 71) dX6_lowerNumbers_71 ?_
                  refine go_iload2 C (pc := 72) dX6_lowerNumbers_72 ?_
                  refine go_iload3 C (pc := 73) dX6_lowerNumbers_73 ?_
                  refine go_iload4 C (pc := 74) dX6_lowerNumbers_74 ?_
                  refine go_cvV3 C (pc := 76) obj_15 (c_X6_putNumber C.fl C.ok _ _ _ _ (by omega) (by omega)) gX6_lowerNumbers_X6_putNumber rfl rfl yok_X6_putNumber ⟨rfl, rfl⟩ ⟨Nat.le_of_ble_eq_true rfl, Nat.le_of_ble_eq_true rfl⟩ (Nat.le_of_ble_eq_true rfl) ⟨Nat.zero_le _, Nat.zero_le _⟩ dX6_lowerNumbers_76 (fun μ12 hc12 => ?_)
                  replace hc12 := hc12.symm
                  subst hc12
                  refine go_iinc3 C (pc := 79) (v := 1) dX6_lowerNumbers_79 (by decide) ?_
                  refine go_goto C (pc := 82) (tgt := 19) dX6_lowerNumbers_82 (by decide) ?_
                  subst h51
                  exact go_drop4 (go_lv (by rw [nI_1]) (go_mem (mset_mset μ 19 F _) (ih2 (by omega) _ _ 1 (lw_less hT hF (by omega) hij (bneg h39) (Or.inr (fun q => h62 (by rw [q]; exact (hF.1 i j (by omega) (bneg h39)).1.symm)))))))
      intro F g1 r hF
      refine go_iload2 C (pc := 4) dX6_lowerNumbers_4 ?_
      refine go_aload0 C (pc := 5) dX6_lowerNumbers_5 ?_
      refine go_get C (pc := 6) 15 (by decide) rfl rfl 0 (by decide) rfl rfl hi_X6_lowerNumbers_RX6 lk_X6_lowerNumbers_23 dX6_lowerNumbers_6 ?_
      refine go_getN C (pc := 9) 1 (by decide) rfl rfl 0 (by decide) rfl rfl hi_X6_lowerNumbers_RX5 (host := "ThornCores") (by decide +kernel) dX6_lowerNumbers_9 ?_
      refine go_icmp_ge C (pc := 12) (tgt := 91) dX6_lowerNumbers_12 (by decide) (fun h12 => ?_) (fun h12 => ?_)
      · exact absurd h12 (cnt_nle hc hi (by omega))
      · refine go_iload2 C (pc := 15) dX6_lowerNumbers_15 ?_
        refine go_iconst C (pc := 16) (v := 1) (by decide) dX6_lowerNumbers_16 ?_
        refine go_iadd C (pc := 17) dX6_lowerNumbers_17 ?_
        refine go_istore3 C (pc := 18) dX6_lowerNumbers_18 ?_
        exact go_lv (by rw [nI_1]) (key2 (i + 1) hi (by omega) F g1 r hF)
  refine go_iconst C (pc := 0) (v := 0) (by decide) dX6_lowerNumbers_0 ?_
  refine go_istore1 C (pc := 1) dX6_lowerNumbers_1 ?_
  refine go_iconst C (pc := 2) (v := 0) (by decide) dX6_lowerNumbers_2 ?_
  refine go_istore2 C (pc := 3) dX6_lowerNumbers_3 ?_
  exact go_lv (by rw [nI_0]) (go_mem (mset_id μ 19).symm (key 0 (Nat.zero_le _) _ g 0 ⟨hg, hI, Or.inl ⟨rfl, rfl, fun a b h1 h2 => by omega⟩⟩))

theorem yok_X6_numberByRounds : yOK yX6_numberByRounds 2 := by unfold yOK; decide +kernel
theorem hi_X6_numberByRounds_RX6 : ∀ w ∈ wsX60, w ∈ wsX6_numberByRounds := by decide +kernel
theorem lk_X6_numberByRounds_23 : Cond.fieldLink RX6 23 "ThornCores$Trusses" "thicket" "LThornCores$Thicket;" ∈ wsX6_numberByRounds := by decide +kernel
theorem hi_X6_numberByRounds_RX5 : ∀ w ∈ wsX50, w ∈ wsX6_numberByRounds := by decide +kernel
theorem lw_X6_numberByRounds_s_X7_bits : Cond.static yX7_bits ∈ wsX6_numberByRounds := by decide +kernel
theorem lw_X6_numberByRounds_i_X7_bits : Cond.initialized RX7 ∈ wsX6_numberByRounds := by decide +kernel
set_option maxRecDepth 20000 in
set_option maxHeartbeats 4000000 in
theorem c_X6_numberByRounds {l : Launch} {D : va_G} {ad : Nat → Nat} {cI cL : ClassId} (hfl : l.flags = flags0) (hok : adOK ad) (μ : Mem) (a b : Nat) {n : Nat} (hc : μ 1 0 = nI n) (hT : TV n (μ 1 1) (μ 3)) (ha : a < 16) (hb : bt (μ 3 a) b = true) : CtI l D ad cI cL yX6_numberByRounds wsX6_numberByRounds (RM 5 116) [.ref (ad 15), .int (nI a), .int (nI b)] μ (fun (r : Int32) (μ' : Mem) => r = nI (trN (μ 3) n a b) ∧ ∃ F, μ' = mset μ 19 F) := by
  refine ct_i (cc := cX6_numberByRounds) (maxL := 5) (own := RX6) .int hfl hok (by decide) rfl rfl rfl (Nat.le_of_ble_eq_true rfl) (fun p e s m below meth c C hr => ?_)
  refine go_lv (lv' := [some (.ref (ad 15)), some (.int (nI a)), some (.int (nI b)), none, none]) rfl ?_
  have hn := hT.1
  obtain ⟨-, -, -, hb16⟩ := edge_lt hT ha hb
  have key0 : ∀ i, i ≤ 1801 → ∀ F g, numT (μ 3) F g → rdT (μ 3) n g → sT (μ 3) g + i ≤ 1800 → Go p l e (headSpec wsX6_numberByRounds (RM 5 116)).room s m ([.ref (ad 15), .int (nI a), .int (nI b)] : List Value).toArray below meth c 0 0 (MQ below (va_Qi (fun (r : Int32) (μ' : Mem) => r = nI (trN (μ 3) n a b) ∧ ∃ F, μ' = mset μ 19 F) (fun μ' t => PreW D ad cI cL μ' t) (AW ad)) ([.ref (ad 15), .int (nI a), .int (nI b)] : List Value).toArray s 0 0 (AW ad)) (AW ad) D ad cI cL 5 77 [some (.ref (ad 15)), some (.int (nI a)), some (.int (nI b)), some (.int (nI i)), none] [] (mset μ 19 F) := by
    refine dn_ind ?_ ?_
    · intro F g _ _ h; omega
    · intro i hi ih F g hF hI hs
      refine go_iload3 C (pc := 77) dX6_numberByRounds_77 ?_
      refine go_sipush C (pc := 78) (v := 1800) (by decide) dX6_numberByRounds_78 ?_
      refine go_icmp_gt C (pc := 81) (tgt := 100) dX6_numberByRounds_81 (by decide) (fun h81 => ?_) (fun h81 => ?_)
      · exact absurd h81 (by rw [show (1800 : Int32) = nI 1800 from by decide +kernel, nI_ltI (by decide) (by omega)]; omega)
      · refine go_aload0 C (pc := 84) dX6_numberByRounds_84 ?_
        refine go_ciV0 C (pc := 85) obj_15 (c_X6_lowerNumbers C.fl C.ok (mset μ 19 F) hc hT g hF hI) gX6_numberByRounds_X6_lowerNumbers rfl rfl yok_X6_lowerNumbers ⟨rfl, rfl⟩ ⟨Nat.le_of_ble_eq_true rfl, Nat.le_of_ble_eq_true rfl⟩ (Nat.le_of_ble_eq_true rfl) ⟨Nat.zero_le _, Nat.zero_le _⟩ dX6_numberByRounds_85 (fun r2 μ2 hc2 => ?_)
        obtain ⟨F1, g1, rfl, hF1, hI1, hd1⟩ := hc2
        replace hF1 : numT (μ 3) F1 g1 := hF1
        replace hI1 : rdT (μ 3) n g1 := hI1
        refine go_if_ne C (pc := 88) (tgt := 94) dX6_numberByRounds_88 (by decide) (fun h88 => ?_) (fun h88 => ?_)
        · refine go_iinc3 C (pc := 94) (v := 1) dX6_numberByRounds_94 (by decide) ?_
          refine go_goto C (pc := 97) (tgt := 77) dX6_numberByRounds_97 (by decide) ?_
          rcases hd1 with ⟨q, -⟩ | ⟨-, q⟩
          · exact absurd q h88
          · exact go_lv (by rw [nI_1]) (go_mem (by rw [mset_mset]) (ih F1 g1 hF1 hI1 (by have : sT (μ 3) g1 < sT (μ 3) g := q; omega)))
        · refine go_goto C (pc := 91) (tgt := 100) dX6_numberByRounds_91 (by decide) ?_
          refine go_aload0 C (pc := 100) dX6_numberByRounds_100 ?_
          refine go_iload1 C (pc := 101) dX6_numberByRounds_101 ?_
          refine go_iload2 C (pc := 102) dX6_numberByRounds_102 ?_
          refine go_ciV2 C (pc := 103) obj_15 (c_X6_number C.fl C.ok _ _ _ ha hb16) gX6_numberByRounds_X6_number rfl rfl yok_X6_number ⟨rfl, rfl⟩ ⟨Nat.le_of_ble_eq_true rfl, Nat.le_of_ble_eq_true rfl⟩ (Nat.le_of_ble_eq_true rfl) ⟨Nat.zero_le _, Nat.zero_le _⟩ dX6_numberByRounds_103 (fun r4 μ4 hc4 => ?_)
          obtain ⟨rfl, hm4⟩ := hc4
          replace hm4 := hm4.symm
          subst hm4
          rcases hd1 with ⟨-, q1, q2⟩ | ⟨q, -⟩
          · exact go_iret C hr dX6_numberByRounds_106 ⟨by show F1 (a * 16 + b) = _; rw [(hF1 a b ha hb).1, rdT_end hT hI1 (by rw [q1]; exact q2) ha hb], F1, by rw [mset_mset]⟩
          · exact absurd h88 (by rw [q]; decide)
  have key : ∀ i, i ≤ n → ∀ F, lay0 (μ 3) n F i (i + 1) → Go p l e (headSpec wsX6_numberByRounds (RM 5 116)).room s m ([.ref (ad 15), .int (nI a), .int (nI b)] : List Value).toArray below meth c 0 0 (MQ below (va_Qi (fun (r : Int32) (μ' : Mem) => r = nI (trN (μ 3) n a b) ∧ ∃ F, μ' = mset μ 19 F) (fun μ' t => PreW D ad cI cL μ' t) (AW ad)) ([.ref (ad 15), .int (nI a), .int (nI b)] : List Value).toArray s 0 0 (AW ad)) (AW ad) D ad cI cL 5 2 [some (.ref (ad 15)), some (.int (nI a)), some (.int (nI b)), some (.int (nI i)), none] [] (mset μ 19 F) := by
    refine dn_ind ?_ ?_
    · intro F hF
      refine go_iload3 C (pc := 2) dX6_numberByRounds_2 ?_
      refine go_aload0 C (pc := 3) dX6_numberByRounds_3 ?_
      refine go_get C (pc := 4) 15 (by decide) rfl rfl 0 (by decide) rfl rfl hi_X6_numberByRounds_RX6 lk_X6_numberByRounds_23 dX6_numberByRounds_4 ?_
      refine go_getN C (pc := 7) 1 (by decide) rfl rfl 0 (by decide) rfl rfl hi_X6_numberByRounds_RX5 (host := "ThornCores") (by decide +kernel) dX6_numberByRounds_7 ?_
      refine go_icmp_ge C (pc := 10) (tgt := 75) dX6_numberByRounds_10 (by decide) (fun h10 => ?_) (fun h10 => ?_)
      · refine go_iconst C (pc := 75) (v := 0) (by decide) dX6_numberByRounds_75 ?_
        refine go_istore3 C (pc := 76) dX6_numberByRounds_76 ?_
        exact go_lv (by rw [nI_0]) (key0 0 (Nat.zero_le _) F _ (lay_end hT hF) (rdT_0 hT) (by have := sT_le (th := μ 3) (g := g0T (μ 3)) (fun i j h1 h2 => (rdT_0 hT i j h1 h2).2.2); omega))
      · exact absurd (cnt_le hc (Nat.le_refl _) (by omega)) h10
    · intro i hi ih
      have key2 : ∀ j, j ≤ n → i < j → ∀ F, lay0 (μ 3) n F i j → Go p l e (headSpec wsX6_numberByRounds (RM 5 116)).room s m ([.ref (ad 15), .int (nI a), .int (nI b)] : List Value).toArray below meth c 0 0 (MQ below (va_Qi (fun (r : Int32) (μ' : Mem) => r = nI (trN (μ 3) n a b) ∧ ∃ F, μ' = mset μ 19 F) (fun μ' t => PreW D ad cI cL μ' t) (AW ad)) ([.ref (ad 15), .int (nI a), .int (nI b)] : List Value).toArray s 0 0 (AW ad)) (AW ad) D ad cI cL 5 18 [some (.ref (ad 15)), some (.int (nI a)), some (.int (nI b)), some (.int (nI i)), some (.int (nI j))] [] (mset μ 19 F) := by
        refine dn_ind ?_ ?_
        · intro hij F hF
          refine go_iload4 C (pc := 18) dX6_numberByRounds_18 ?_
          refine go_aload0 C (pc := 20) dX6_numberByRounds_20 ?_
          refine go_get C (pc := 21) 15 (by decide) rfl rfl 0 (by decide) rfl rfl hi_X6_numberByRounds_RX6 lk_X6_numberByRounds_23 dX6_numberByRounds_21 ?_
          refine go_getN C (pc := 24) 1 (by decide) rfl rfl 0 (by decide) rfl rfl hi_X6_numberByRounds_RX5 (host := "ThornCores") (by decide +kernel) dX6_numberByRounds_24 ?_
          refine go_icmp_ge C (pc := 27) (tgt := 69) dX6_numberByRounds_27 (by decide) (fun h27 => ?_) (fun h27 => ?_)
          · refine go_iinc3 C (pc := 69) (v := 1) dX6_numberByRounds_69 (by decide) ?_
            refine go_goto C (pc := 72) (tgt := 2) dX6_numberByRounds_72 (by decide) ?_
            exact go_drop4 (go_lv (by rw [nI_1]) (ih F (lay_row hF)))
          · exact absurd (cnt_le hc (Nat.le_refl _) (by omega)) h27
        · intro j hj ih2 hij F hF
          refine go_iload4 C (pc := 18) dX6_numberByRounds_18 ?_
          refine go_aload0 C (pc := 20) dX6_numberByRounds_20 ?_
          refine go_get C (pc := 21) 15 (by decide) rfl rfl 0 (by decide) rfl rfl hi_X6_numberByRounds_RX6 lk_X6_numberByRounds_23 dX6_numberByRounds_21 ?_
          refine go_getN C (pc := 24) 1 (by decide) rfl rfl 0 (by decide) rfl rfl hi_X6_numberByRounds_RX5 (host := "ThornCores") (by decide +kernel) dX6_numberByRounds_24 ?_
          refine go_icmp_ge C (pc := 27) (tgt := 69) dX6_numberByRounds_27 (by decide) (fun h27 => ?_) (fun h27 => ?_)
          · exact absurd h27 (cnt_nle hc hj (by omega))
          · refine go_aload0 C (pc := 30) dX6_numberByRounds_30 ?_
            refine go_get C (pc := 31) 15 (by decide) rfl rfl 0 (by decide) rfl rfl hi_X6_numberByRounds_RX6 lk_X6_numberByRounds_23 dX6_numberByRounds_31 ?_
            refine go_iload3 C (pc := 34) dX6_numberByRounds_34 ?_
            refine go_iload4 C (pc := 35) dX6_numberByRounds_35 ?_
            refine go_ciV2 C (pc := 37) obj_1 (c_X5_isBoundN C.fl C.ok (mset μ 19 F) _ _ hc hT (by omega) (by omega)) gX6_numberByRounds_X5_isBound rfl rfl yok_X5_isBound ⟨rfl, rfl⟩ ⟨Nat.le_of_ble_eq_true rfl, Nat.le_of_ble_eq_true rfl⟩ (Nat.le_of_ble_eq_true rfl) ⟨Nat.zero_le _, Nat.zero_le _⟩ dX6_numberByRounds_37 (fun r8 μ8 hc8 => ?_)
            obtain ⟨rfl, hm8⟩ := hc8
            replace hm8 := hm8.symm
            subst hm8
            refine go_top (y := b2i (bt (μ 3 i) j)) rfl ?_
            refine go_if_eq C (pc := 40) (tgt := 63) dX6_numberByRounds_40 (by decide) (fun h40 => ?_) (fun h40 => ?_)
            · refine go_iinc4 C (pc := 63) (v := 1) dX6_numberByRounds_63 (by decide) ?_
              refine go_goto C (pc := 66) (tgt := 18) dX6_numberByRounds_66 (by decide) ?_
              exact go_lv (by rw [nI_1]) (ih2 (by omega) F (lay_skip hF (bpos h40)))
            · refine go_aload0 C (pc := 43) dX6_numberByRounds_43 ?_
              refine go_iload3 C (pc := 44) dX6_numberByRounds_44 ?_
              refine go_iload4 C (pc := 45) dX6_numberByRounds_45 ?_
              refine go_aload0 C (pc := 47) dX6_numberByRounds_47 ?_
              refine go_get C (pc := 48) 15 (by decide) rfl rfl 0 (by decide) rfl rfl hi_X6_numberByRounds_RX6 lk_X6_numberByRounds_23 dX6_numberByRounds_48 ?_
              refine go_iload3 C (pc := 51) dX6_numberByRounds_51 ?_
              refine go_iload4 C (pc := 52) dX6_numberByRounds_52 ?_
              refine go_ciV2 C (pc := 54) obj_1 (c_X5_aroundBothN C.fl C.ok _ _ _ (by omega) (by omega)) gX6_numberByRounds_X5_aroundBoth rfl rfl yok_X5_aroundBoth ⟨rfl, rfl⟩ ⟨Nat.le_of_ble_eq_true rfl, Nat.le_of_ble_eq_true rfl⟩ (Nat.le_of_ble_eq_true rfl) ⟨Nat.zero_le _, Nat.zero_le _⟩ dX6_numberByRounds_54 (fun r10 μ10 hc10 => ?_)
              obtain ⟨rfl, hm10⟩ := hc10
              replace hm10 := hm10.symm
              subst hm10
              refine go_top (y := μ 3 i &&& μ 3 j) rfl ?_
              refine go_ciSN1 C (pc := 57) (host := "ThornCores") (c_X7_bitsN C.fl C.ok _ _ (sm_and _ (hT.st (by omega)))) gX6_numberByRounds_X7_bits_n37 rfl (by decide +kernel) lw_X6_numberByRounds_s_X7_bits lw_X6_numberByRounds_i_X7_bits yok_X7_bits ⟨rfl, rfl⟩ ⟨Nat.le_of_ble_eq_true rfl, Nat.le_of_ble_eq_true rfl⟩ (Nat.le_of_ble_eq_true rfl) ⟨Nat.zero_le _, Nat.zero_le _⟩ dX6_numberByRounds_57 (fun r11 μ11 hc11 => ?_)
              obtain ⟨rfl, hm11⟩ := hc11
              replace hm11 := hm11.symm
              subst hm11
              refine go_top (y := nI (g0T (μ 3) i j)) rfl ?_
              refine go_cvV3 C (pc := 60) obj_15 (c_X6_putNumber C.fl C.ok _ _ _ _ (by omega) (by omega)) gX6_numberByRounds_X6_putNumber rfl rfl yok_X6_putNumber ⟨rfl, rfl⟩ ⟨Nat.le_of_ble_eq_true rfl, Nat.le_of_ble_eq_true rfl⟩ (Nat.le_of_ble_eq_true rfl) ⟨Nat.zero_le _, Nat.zero_le _⟩ dX6_numberByRounds_60 (fun μ12 hc12 => ?_)
              replace hc12 := hc12.symm
              subst hc12
              refine go_iinc4 C (pc := 63) (v := 1) dX6_numberByRounds_63 (by decide) ?_
              refine go_goto C (pc := 66) (tgt := 18) dX6_numberByRounds_66 (by decide) ?_
              exact go_lv (by rw [nI_1]) (go_mem (mset_mset μ 19 F _) (ih2 (by omega) _ (lay_put hn hF (by omega) (by omega) hij)))
      intro F hF
      refine go_iload3 C (pc := 2) dX6_numberByRounds_2 ?_
      refine go_aload0 C (pc := 3) dX6_numberByRounds_3 ?_
      refine go_get C (pc := 4) 15 (by decide) rfl rfl 0 (by decide) rfl rfl hi_X6_numberByRounds_RX6 lk_X6_numberByRounds_23 dX6_numberByRounds_4 ?_
      refine go_getN C (pc := 7) 1 (by decide) rfl rfl 0 (by decide) rfl rfl hi_X6_numberByRounds_RX5 (host := "ThornCores") (by decide +kernel) dX6_numberByRounds_7 ?_
      refine go_icmp_ge C (pc := 10) (tgt := 75) dX6_numberByRounds_10 (by decide) (fun h10 => ?_) (fun h10 => ?_)
      · exact absurd h10 (cnt_nle hc hi (by omega))
      · refine go_iload3 C (pc := 13) dX6_numberByRounds_13 ?_
        refine go_iconst C (pc := 14) (v := 1) (by decide) dX6_numberByRounds_14 ?_
        refine go_iadd C (pc := 15) dX6_numberByRounds_15 ?_
        refine go_istore4 C (pc := 16) dX6_numberByRounds_16 ?_
        exact go_lv (by rw [nI_1]) (key2 (i + 1) hi (by omega) F hF)
  refine go_iconst C (pc := 0) (v := 0) (by decide) dX6_numberByRounds_0 ?_
  refine go_istore3 C (pc := 1) dX6_numberByRounds_1 ?_
  exact go_lv (by rw [nI_0]) (go_mem (mset_id μ 19).symm (key 0 (Nat.zero_le _) _ (fun a b h1 h2 => by omega)))

