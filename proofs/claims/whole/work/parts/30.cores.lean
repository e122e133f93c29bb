/-! ===== ThornCores$Cores: what the calls answer, as functions of the thicket ===== -/
def holdF (th : Nat → Int32) (k : Nat) (L : Int32) : Nat → Bool := fun p => bt L p && decide (k ≤ ct (th p &&& L))
def holdI (th : Nat → Int32) (k : Nat) (pr L : Int32) : Int32 := accN (L &&& pr) (holdF th k L) 16
theorem sm_hold {th : Nat → Int32} {k : Nat} {pr L : Int32} (hL : sm L) : sm (holdI th k pr L) := sm_acc _ (sm_and _ hL) (Nat.le_refl _)
theorem sm_itr {th : Nat → Int32} {k : Nat} {pr L : Int32} (hL : sm L) : ∀ i, sm (itr (holdI th k pr) i L)
  | 0 => hL
  | i + 1 => sm_hold (sm_itr hL i)
/-- the k-core within P -/
def coreI (th : Nat → Int32) (pr : Int32) (k : Nat) (P : Int32) : Int32 := itr (holdI th k pr) 17 P
theorem sm_core {th : Nat → Int32} {k : Nat} {pr L : Int32} (hL : sm L) : sm (coreI th pr k L) := sm_itr hL 17
theorem nle {a b : Nat} (ha : a < 2 ^ 31) (hb : b < 2 ^ 31) (h : ¬ nI a < nI b) : b ≤ a := by
  rw [nI_ltI ha hb] at h; omega
theorem nlt {a b : Nat} (ha : a < 2 ^ 31) (hb : b < 2 ^ 31) (h : nI a < nI b) : a < b := (nI_ltI ha hb).mp h
theorem yok_X0_holding : yOK yX0_holding 3 := by unfold yOK; decide +kernel
theorem lw_X0_holding_s_X7_in : Cond.static yX7_in ∈ wsX0_holding := by decide +kernel
theorem lw_X0_holding_i_X7_in : Cond.initialized RX7 ∈ wsX0_holding := by decide +kernel
theorem hi_X0_holding_RX0 : ∀ w ∈ wsX00, w ∈ wsX0_holding := by decide +kernel
theorem lk_X0_holding_20 : Cond.fieldLink RX0 20 "ThornCores$Cores" "thicket" "LThornCores$Thicket;" ∈ wsX0_holding := by decide +kernel
theorem lw_X0_holding_s_X7_bits : Cond.static yX7_bits ∈ wsX0_holding := by decide +kernel
theorem lw_X0_holding_i_X7_bits : Cond.initialized RX7 ∈ wsX0_holding := by decide +kernel
theorem lw_X0_holding_s_X7_bit : Cond.static yX7_bit ∈ wsX0_holding := by decide +kernel
theorem lw_X0_holding_i_X7_bit : Cond.initialized RX7 ∈ wsX0_holding := by decide +kernel
set_option maxRecDepth 20000 in
set_option maxHeartbeats 4000000 in
theorem c_X0_holding {l : Launch} {D : va_G} {ad : Nat → Nat} {cI cL : ClassId} (hfl : l.flags = flags0) (hok : adOK ad) (μ : Mem) (L pr : Int32) (k : Nat) {n : Nat} (hc : μ 1 0 = nI n) (hT : TV n (μ 1 1) (μ 3)) (hL : sm L) (hk : k ≤ 16) : CtI l D ad cI cL yX0_holding wsX0_holding (RM 2 42) [.ref (ad 12), .int L, .int pr, .int (nI k)] μ (fun (r : Int32) (μ' : Mem) => r = holdI (μ 3) k pr L ∧ μ' = μ) := by
  refine ct_i (cc := cX0_holding) (maxL := 6) (own := RX0) .int hfl hok (by decide) rfl rfl rfl (Nat.le_of_ble_eq_true rfl) (fun p e s m below meth c C hr => ?_)
  refine go_lv (lv' := [some (.ref (ad 12)), some (.int L), some (.int pr), some (.int (nI k)), none, none]) rfl ?_
  have key : ∀ i, i ≤ 16 → Go p l e (headSpec wsX0_holding (RM 2 42)).room s m ([.ref (ad 12), .int L, .int pr, .int (nI k)] : List Value).toArray below meth c 0 0 (MQ below (va_Qi (fun (r : Int32) (μ' : Mem) => r = holdI (μ 3) k pr L ∧ μ' = μ) (fun μ' t => PreW D ad cI cL μ' t) (AW ad)) ([.ref (ad 12), .int L, .int pr, .int (nI k)] : List Value).toArray s 0 0 (AW ad)) (AW ad) D ad cI cL 6 8 [some (.ref (ad 12)), some (.int L), some (.int pr), some (.int (nI k)), some (.int (accN (L &&& pr) (holdF (μ 3) k L) i)), some (.int (nI i))] [] (μ) := by
    refine dn_ind ?_ ?_
    · refine go_iload5 C (pc := 8) dX0_holding_8 ?_
      refine go_bipush C (pc := 10) (v := 16) (by decide) dX0_holding_10 ?_
      refine go_icmp_ge C (pc := 12) (tgt := 58) dX0_holding_12 (by decide) (fun h12 => ?_) (fun h12 => ?_)
      · refine go_iload4 C (pc := 58) dX0_holding_58 ?_
        exact go_iret C hr dX0_holding_60 (⟨rfl, rfl⟩)
      · exact absurd (cnt_le nI16 (Nat.le_refl _) (by omega)) h12
    · intro i hi ih
      refine go_iload5 C (pc := 8) dX0_holding_8 ?_
      refine go_bipush C (pc := 10) (v := 16) (by decide) dX0_holding_10 ?_
      refine go_icmp_ge C (pc := 12) (tgt := 58) dX0_holding_12 (by decide) (fun h12 => ?_) (fun h12 => ?_)
      · exact absurd h12 (cnt_nle nI16 hi (by omega))
      · refine go_iload1 C (pc := 15) dX0_holding_15 ?_
        refine go_iload5 C (pc := 16) dX0_holding_16 ?_
        refine go_ciSN2 C (pc := 18) (host := "ThornCores") (c_X7_inN C.fl C.ok _ _ _ (by omega)) gX0_holding_X7_in_n28 rfl (by decide +kernel) lw_X0_holding_s_X7_in lw_X0_holding_i_X7_in yok_X7_in ⟨rfl, rfl⟩ ⟨Nat.le_of_ble_eq_true rfl, Nat.le_of_ble_eq_true rfl⟩ (Nat.le_of_ble_eq_true rfl) ⟨Nat.zero_le _, Nat.zero_le _⟩ dX0_holding_18 (fun r3 μ3 hc3 => ?_)
        obtain ⟨rfl, hm3⟩ := hc3
        replace hm3 := hm3.symm
        subst hm3
        refine go_if_eq C (pc := 21) (tgt := 52) dX0_holding_21 (by decide) (fun h21 => ?_) (fun h21 => ?_)
        · refine go_iinc5 C (pc := 52) (v := 1) dX0_holding_52 (by decide) ?_
          refine go_goto C (pc := 55) (tgt := 8) dX0_holding_55 (by decide) ?_
          exact go_lv (by rw [nI_1, accN_f (by simp [holdF, bpos h21])]) ih
        · refine go_aload0 C (pc := 24) dX0_holding_24 ?_
          refine go_get C (pc := 25) 12 (by decide) rfl rfl 0 (by decide) rfl rfl hi_X0_holding_RX0 lk_X0_holding_20 dX0_holding_25 ?_
          refine go_iload5 C (pc := 28) dX0_holding_28 ?_
          refine go_ciV1 C (pc := 30) obj_1 (c_X5_aroundN C.fl C.ok _ _ (by omega)) gX0_holding_X5_around rfl rfl yok_X5_around ⟨rfl, rfl⟩ ⟨Nat.le_of_ble_eq_true rfl, Nat.le_of_ble_eq_true rfl⟩ (Nat.le_of_ble_eq_true rfl) ⟨Nat.zero_le _, Nat.zero_le _⟩ dX0_holding_30 (fun r5 μ5 hc5 => ?_)
          obtain ⟨rfl, hm5⟩ := hc5
          replace hm5 := hm5.symm
          subst hm5
          refine go_iload1 C (pc := 33) dX0_holding_33 ?_
          refine go_iand C (pc := 34) dX0_holding_34 ?_
          refine go_ciSN1 C (pc := 35) (host := "ThornCores") (c_X7_bitsN C.fl C.ok _ _ (sm_and2 _ hL)) gX0_holding_X7_bits_n38 rfl (by decide +kernel) lw_X0_holding_s_X7_bits lw_X0_holding_i_X7_bits yok_X7_bits ⟨rfl, rfl⟩ ⟨Nat.le_of_ble_eq_true rfl, Nat.le_of_ble_eq_true rfl⟩ (Nat.le_of_ble_eq_true rfl) ⟨Nat.zero_le _, Nat.zero_le _⟩ dX0_holding_35 (fun r6 μ6 hc6 => ?_)
          obtain ⟨rfl, hm6⟩ := hc6
          replace hm6 := hm6.symm
          subst hm6
          refine go_iload3 C (pc := 38) dX0_holding_38 ?_
          refine go_icmp_lt C (pc := 39) (tgt := 52) dX0_holding_39 (by decide) (fun h39 => ?_) (fun h39 => ?_)
          · refine go_iinc5 C (pc := 52) (v := 1) dX0_holding_52 (by decide) ?_
            refine go_goto C (pc := 55) (tgt := 8) dX0_holding_55 (by decide) ?_
            exact go_lv (by rw [nI_1, accN_f (by have := nlt (by have := ct_le (μ 3 i &&& L); omega) (by omega) h39; simp [holdF, bneg h21]; omega)]) ih
          · refine go_iload4 C (pc := 42) dX0_holding_42 ?_
            refine go_iload5 C (pc := 44) dX0_holding_44 ?_
            refine go_ciSN1 C (pc := 46) (host := "ThornCores") (c_X7_bit C.fl C.ok _ _ ) gX0_holding_X7_bit_n41 rfl (by decide +kernel) lw_X0_holding_s_X7_bit lw_X0_holding_i_X7_bit yok_X7_bit ⟨rfl, rfl⟩ ⟨Nat.le_of_ble_eq_true rfl, Nat.le_of_ble_eq_true rfl⟩ (Nat.le_of_ble_eq_true rfl) ⟨Nat.zero_le _, Nat.zero_le _⟩ dX0_holding_46 (fun r8 μ8 hc8 => ?_)
            obtain ⟨rfl, hm8⟩ := hc8
            replace hm8 := hm8.symm
            subst hm8
            refine go_ior C (pc := 49) dX0_holding_49 ?_
            refine go_istore4 C (pc := 50) dX0_holding_50 ?_
            refine go_iinc5 C (pc := 52) (v := 1) dX0_holding_52 (by decide) ?_
            refine go_goto C (pc := 55) (tgt := 8) dX0_holding_55 (by decide) ?_
            exact go_lv (by rw [nI_1, accN_t (by have := nle (by have := ct_le (μ 3 i &&& L); omega) (by omega) h39; simp [holdF, bneg h21]; omega)]) ih
  refine go_iload1 C (pc := 0) dX0_holding_0 ?_
  refine go_iload2 C (pc := 1) dX0_holding_1 ?_
  refine go_iand C (pc := 2) dX0_holding_2 ?_
  refine go_istore4 C (pc := 3) dX0_holding_3 ?_
  refine go_iconst C (pc := 5) (v := 0) (by decide) dX0_holding_5 ?_
  refine go_istore5 C (pc := 6) dX0_holding_6 ?_
  exact go_lv (by rw [nI_0]; rfl) (key 0 (Nat.zero_le _))

theorem yok_X0_left : yOK yX0_left 3 := by unfold yOK; decide +kernel
set_option maxRecDepth 20000 in
set_option maxHeartbeats 4000000 in
theorem c_X0_left {l : Launch} {D : va_G} {ad : Nat → Nat} {cI cL : ClassId} (hfl : l.flags = flags0) (hok : adOK ad) (μ : Mem) (L pr : Int32) (k : Nat) {n : Nat} (hc : μ 1 0 = nI n) (hT : TV n (μ 1 1) (μ 3)) (hL : sm L) (hk : k ≤ 16) : CtI l D ad cI cL yX0_left wsX0_left (RM 3 67) [.ref (ad 12), .int L, .int pr, .int (nI k)] μ (fun (r : Int32) (μ' : Mem) => r = coreI (μ 3) pr k L ∧ μ' = μ) := by
  refine ct_i (cc := cX0_left) (maxL := 7) (own := RX0) .int hfl hok (by decide) rfl rfl rfl (Nat.le_of_ble_eq_true rfl) (fun p e s m below meth c C hr => ?_)
  refine go_lv (lv' := [some (.ref (ad 12)), some (.int L), some (.int pr), some (.int (nI k)), none, none, none]) rfl ?_
  have key : ∀ i, i ≤ 17 → Go p l e (headSpec wsX0_left (RM 3 67)).room s m ([.ref (ad 12), .int L, .int pr, .int (nI k)] : List Value).toArray below meth c 0 0 (MQ below (va_Qi (fun (r : Int32) (μ' : Mem) => r = coreI (μ 3) pr k L ∧ μ' = μ) (fun μ' t => PreW D ad cI cL μ' t) (AW ad)) ([.ref (ad 12), .int L, .int pr, .int (nI k)] : List Value).toArray s 0 0 (AW ad)) (AW ad) D ad cI cL 7 6 [some (.ref (ad 12)), some (.int L), some (.int pr), some (.int (nI k)), some (.int (itr (holdI (μ 3) k pr) i L)), some (.int (nI i)), none] [] (μ) := by
    refine dn_ind ?_ ?_
    · refine go_iload5 C (pc := 6) dX0_left_6 ?_
      refine go_bipush C (pc := 8) (v := 16) (by decide) dX0_left_8 ?_
      refine go_icmp_gt C (pc := 10) (tgt := 43) dX0_left_10 (by decide) (fun h10 => ?_) (fun h10 => ?_)
      · refine go_iload4 C (pc := 43) dX0_left_43 ?_
        exact go_iret C hr dX0_left_45 (⟨rfl, rfl⟩)
      · exact absurd (by decide) h10
    · intro i hi ih
      refine go_iload5 C (pc := 6) dX0_left_6 ?_
      refine go_bipush C (pc := 8) (v := 16) (by decide) dX0_left_8 ?_
      refine go_icmp_gt C (pc := 10) (tgt := 43) dX0_left_10 (by decide) (fun h10 => ?_) (fun h10 => ?_)
      · exact absurd h10 (by rw [nI16, nI_ltI (by decide) (by omega)]; omega)
      · refine go_aload0 C (pc := 13) dX0_left_13 ?_
        refine go_iload4 C (pc := 14) dX0_left_14 ?_
        refine go_iload2 C (pc := 16) dX0_left_16 ?_
        refine go_iload3 C (pc := 17) dX0_left_17 ?_
        refine go_ciV3 C (pc := 18) obj_12 (c_X0_holding C.fl C.ok _ _ _ _ hc hT (sm_itr hL i) hk) gX0_left_X0_holding rfl rfl yok_X0_holding ⟨rfl, rfl⟩ ⟨Nat.le_of_ble_eq_true rfl, Nat.le_of_ble_eq_true rfl⟩ (Nat.le_of_ble_eq_true rfl) ⟨Nat.zero_le _, Nat.zero_le _⟩ dX0_left_18 (fun r3 μ3 hc3 => ?_)
        obtain ⟨rfl, hm3⟩ := hc3
        replace hm3 := hm3.symm
        subst hm3
        refine go_istore6 C (pc := 21) dX0_left_21 ?_
        refine go_iload6 C (pc := 23) dX0_left_23 ?_
        refine go_iload4 C (pc := 25) dX0_left_25 ?_
        refine go_icmp_ne C (pc := 27) (tgt := 33) dX0_left_27 (by decide) (fun h27 => ?_) (fun h27 => ?_)
        · refine go_iload6 C (pc := 33) dX0_left_33 ?_
          refine go_istore4 C (pc := 35) dX0_left_35 ?_
          refine go_iinc5 C (pc := 37) (v := 1) dX0_left_37 (by decide) ?_
          refine go_goto C (pc := 40) (tgt := 6) dX0_left_40 (by decide) ?_
          exact go_drop6 (go_lv (by rw [nI_1]; rfl) ih)
        · refine go_iload4 C (pc := 30) dX0_left_30 ?_
          exact go_iret C hr dX0_left_32 (⟨(itr_fix (f := holdI (μ 3) k pr) (by exact h27) 17 (by omega)).symm, rfl⟩)
  refine go_iload1 C (pc := 0) dX0_left_0 ?_
  refine go_istore4 C (pc := 1) dX0_left_1 ?_
  refine go_iconst C (pc := 3) (v := 0) (by decide) dX0_left_3 ?_
  refine go_istore5 C (pc := 4) dX0_left_4 ?_
  exact go_lv (by rw [nI_0]; rfl) (key 0 (Nat.zero_le _))

