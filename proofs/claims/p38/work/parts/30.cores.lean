/-! ===== ThornCores$Cores: what the calls answer, as functions of the thicket ===== -/
def holdF (th : Nat → Int32) (k : Nat) (L : Int32) : Nat → Bool := fun p => bt L p && decide (k ≤ ct (th p &&& L))
def holdI (th : Nat → Int32) (k : Nat) (pr L : Int32) : Int32 := accN (L &&& pr) (holdF th k L) 16
theorem sm_hold {th : Nat → Int32} {k : Nat} {pr L : Int32} (hL : sm L) : sm (holdI th k pr L) := sm_acc _ (sm_and _ hL) (Nat.le_refl _)
theorem sm_itr {th : Nat → Int32} {k : Nat} {pr L : Int32} (hL : sm L) : ∀ i, sm (itr (holdI th k pr) i L)
  | 0 => hL
  | i + 1 => sm_hold (sm_itr hL i)
/-- the k-core within P -/
def coreI (th : Nat → Int32) (pr : Int32) (k : Nat) (P : Int32) : Int32 := itr (holdI th k pr) 17 P
theorem sm_core {th : Nat → Int32} {k : Nat} {pr L : Int32} (hL : sm L) : sm (coreI th pr k L) := sm_itr hL 17
theorem nle {a b : Nat} (ha : a < 2 ^ 31) (hb : b < 2 ^ 31) (h : ¬ nI a < nI b) : b ≤ a := by
  rw [nI_ltI ha hb] at h; omega
theorem nlt {a b : Nat} (ha : a < 2 ^ 31) (hb : b < 2 ^ 31) (h : nI a < nI b) : a < b := (nI_ltI ha hb).mp h
theorem yok_X0_holding : yOK yX0_holding 3 := by unfold yOK; decide +kernel
theorem lw_X0_holding_s_X7_in : Cond.static yX7_in ∈ wsX0_holding := by decide +kernel
theorem lw_X0_holding_i_X7_in : Cond.initialized RX7 ∈ wsX0_holding := by decide +kernel
theorem hi_X0_holding_RX0 : ∀ w ∈ wsX00, w ∈ wsX0_holding := by decide +kernel
theorem lk_X0_holding_20 : Cond.fieldLink RX0 20 "ThornCores$Cores" "thicket" "LThornCores$Thicket;" ∈ wsX0_holding := by decide +kernel
theorem lw_X0_holding_s_X7_bits : Cond.static yX7_bits ∈ wsX0_holding := by decide +kernel
theorem lw_X0_holding_i_X7_bits : Cond.initialized RX7 ∈ wsX0_holding := by decide +kernel
theorem lw_X0_holding_s_X7_bit : Cond.static yX7_bit ∈ wsX0_holding := by decide +kernel
theorem lw_X0_holding_i_X7_bit : Cond.initialized RX7 ∈ wsX0_holding := by decide +kernel
set_option maxRecDepth 20000 in
set_option maxHeartbeats 4000000 in
theorem c_X0_holding {l : Launch} {D : va_G} {ad : Nat → Nat} {cI cL : ClassId} (hfl : l.flags = flags0) (hok : adOK ad) (μ : Mem) (L pr : Int32) (k : Nat) {n : Nat} (hc : μ 1 0 = nI n) (hT : TV n (μ 1 1) (μ 3)) (hL : sm L) (hk : k ≤ 16) : CtI l D ad cI cL yX0_holding wsX0_holding (RM 2 42) [.ref (ad 12), .int L, .int pr, .int (nI k)] μ (fun (r : Int32) (μ' : Mem) => r = holdI (μ 3) k pr L ∧ μ' = μ) := by
  refine ct_i (cc := cX0_holding) (maxL := 6) (own := RX0) .int hfl hok (by decide) rfl rfl rfl (Nat.le_of_ble_eq_true rfl) (fun p e s m below meth c C hr => ?_)
  refine go_lv (lv' := [some (.ref (ad 12)), some (.int L), some (.int pr), some (.int (nI k)), none, none]) rfl ?_
  have key : ∀ i, i ≤ 16 → Go p l e (headSpec wsX0_holding (RM 2 42)).room s m ([.ref (ad 12), .int L, .int pr, .int (nI k)] : List Value).toArray below meth c 0 0 (MQ below (va_Qi (fun (r : Int32) (μ' : Mem) => r = holdI (μ 3) k pr L ∧ μ' = μ) (fun μ' t => PreW D ad cI cL μ' t) (AW ad)) ([.ref (ad 12), .int L, .int pr, .int (nI k)] : List Value).toArray s 0 0 (AW ad)) (AW ad) D ad cI cL 6 8 [some (.ref (ad 12)), some (.int L), some (.int pr), some (.int (nI k)), some (.int (accN (L &&& pr) (holdF (μ 3) k L) i)), some (.int (nI i))] [] (μ) := by
    refine dn_ind ?_ ?_
    · refine go_iload5 C (pc := 8) dX0_holding_8 ?_
      refine go_bipush C (pc := 10) (v := 16) (by decide) dX0_holding_10 ?_
      refine go_icmp_ge C (pc := 12) (tgt := 58) dX0_holding_12 (by decide) (fun h12 => ?_) (fun h12 => ?_)
      · refine go_iload4 C (pc := 58) dX0_holding_58 ?_
        exact go_iret C hr dX0_holding_60 (⟨rfl, rfl⟩)
      · exact absurd (cnt_le nI16 (Nat.le_refl _) (by omega)) h12
    · intro i hi ih
      refine go_iload5 C (pc := 8) dX0_holding_8 ?_
      refine go_bipush C (pc := 10) (v := 16) (by decide) dX0_holding_10 ?_
      refine go_icmp_ge C (pc := 12) (tgt := 58) dX0_holding_12 (by decide) (fun h12 => ?_) (fun h12 => ?_)
      · exact absurd h12 (cnt_nle nI16 hi (by omega))
      · refine go_iload1 C (pc := 15) dX0_holding_15 ?_
        refine go_iload5 C (pc := 16) dX0_holding_16 ?_
        refine go_ciSN2 C (pc := 18) (host := "ThornCores") (c_X7_inN C.fl C.ok _ _ _ (by omega)) gX0_holding_X7_in_n28 rfl (by decide +kernel) lw_X0_holding_s_X7_in lw_X0_holding_i_X7_in yok_X7_in ⟨rfl, rfl⟩ ⟨Nat.le_of_ble_eq_true rfl, Nat.le_of_ble_eq_true rfl⟩ (Nat.le_of_ble_eq_true rfl) ⟨Nat.zero_le _, Nat.zero_le _⟩ dX0_holding_18 (fun r3 μ3 hc3 => ?_)
        obtain ⟨rfl, hm3⟩ := hc3
        replace hm3 := hm3.symm
        subst hm3
        refine go_if_eq C (pc := 21) (tgt := 52) dX0_holding_21 (by decide) (fun h21 => ?_) (fun h21 => ?_)
        · refine go_iinc5 C (pc := 52) (v := 1) dX0_holding_52 (by decide) ?_
          refine go_goto C (pc := 55) (tgt := 8) dX0_holding_55 (by decide) ?_
          exact go_lv (by rw [nI_1, accN_f (by simp [holdF, bpos h21])]) ih
        · refine go_aload0 C (pc := 24) dX0_holding_24 ?_
          refine go_get C (pc := 25) 12 (by decide) rfl rfl 0 (by decide) rfl rfl hi_X0_holding_RX0 lk_X0_holding_20 dX0_holding_25 ?_
          refine go_iload5 C (pc := 28) dX0_holding_28 ?_
          refine go_ciV1 C (pc := 30) obj_1 (c_X5_aroundN C.fl C.ok _ _ (by omega)) gX0_holding_X5_around rfl rfl yok_X5_around ⟨rfl, rfl⟩ ⟨Nat.le_of_ble_eq_true rfl, Nat.le_of_ble_eq_true rfl⟩ (Nat.le_of_ble_eq_true rfl) ⟨Nat.zero_le _, Nat.zero_le _⟩ dX0_holding_30 (fun r5 μ5 hc5 => ?_)
          obtain ⟨rfl, hm5⟩ := hc5
          replace hm5 := hm5.symm
          subst hm5
          refine go_iload1 C (pc := 33) dX0_holding_33 ?_
          refine go_iand C (pc := 34) dX0_holding_34 ?_
          refine go_ciSN1 C (pc := 35) (host := "ThornCores") (c_X7_bitsN C.fl C.ok _ _ (sm_and2 _ hL)) gX0_holding_X7_bits_n38 rfl (by decide +kernel) lw_X0_holding_s_X7_bits lw_X0_holding_i_X7_bits yok_X7_bits ⟨rfl, rfl⟩ ⟨Nat.le_of_ble_eq_true rfl, Nat.le_of_ble_eq_true rfl⟩ (Nat.le_of_ble_eq_true rfl) ⟨Nat.zero_le _, Nat.zero_le _⟩ dX0_holding_35 (fun r6 μ6 hc6 => ?_)
          obtain ⟨rfl, hm6⟩ := hc6
          replace hm6 := hm6.symm
          subst hm6
          refine go_iload3 C (pc := 38) dX0_holding_38 ?_
          refine go_icmp_lt C (pc := 39) (tgt := 52) dX0_holding_39 (by decide) (fun h39 => ?_) (fun h39 => ?_)
          · refine go_iinc5 C (pc := 52) (v := 1) dX0_holding_52 (by decide) ?_
            refine go_goto C (pc := 55) (tgt := 8) dX0_holding_55 (by decide) ?_
            exact go_lv (by rw [nI_1, accN_f (by have := nlt (by have := ct_le (μ 3 i &&& L); omega) (by omega) h39; simp [holdF, bneg h21]; omega)]) ih
          · refine go_iload4 C (pc := 42) dX0_holding_42 ?_
            refine go_iload5 C (pc := 44) dX0_holding_44 ?_
            refine go_ciSN1 C (pc := 46) (host := "ThornCores") (c_X7_bit C.fl C.ok _ _ ) gX0_holding_X7_bit_n41 rfl (by decide +kernel) lw_X0_holding_s_X7_bit lw_X0_holding_i_X7_bit yok_X7_bit ⟨rfl, rfl⟩ ⟨Nat.le_of_ble_eq_true rfl, Nat.le_of_ble_eq_true rfl⟩ (Nat.le_of_ble_eq_true rfl) ⟨Nat.zero_le _, Nat.zero_le _⟩ dX0_holding_46 (fun r8 μ8 hc8 => ?_)
            obtain ⟨rfl, hm8⟩ := hc8
            replace hm8 := hm8.symm
            subst hm8
            refine go_ior C (pc := 49) dX0_holding_49 ?_
            refine go_istore4 C (pc := 50) dX0_holding_50 ?_
            refine go_iinc5 C (pc := 52) (v := 1) dX0_holding_52 (by decide) ?_
            refine go_goto C (pc := 55) (tgt := 8) dX0_holding_55 (by decide) ?_
            exact go_lv (by rw [nI_1, accN_t (by have := nle (by have := ct_le (μ 3 i &&& L); omega) (by omega) h39; simp [holdF, bneg h21]; omega)]) ih
  refine go_iload1 C (pc := 0) dX0_holding_0 ?_
  refine go_iload2 C (pc := 1) dX0_holding_1 ?_
  refine go_iand C (pc := 2) dX0_holding_2 ?_
  refine go_istore4 C (pc := 3) dX0_holding_3 ?_
  refine go_iconst C (pc := 5) (v := 0) (by decide) dX0_holding_5 ?_
  refine go_istore5 C (pc := 6) dX0_holding_6 ?_
  exact go_lv (by rw [nI_0]; rfl) (key 0 (Nat.zero_le _))

theorem yok_X0_left : yOK yX0_left 3 := by unfold yOK; decide +kernel
set_option maxRecDepth 20000 in
set_option maxHeartbeats 4000000 in
theorem c_X0_left {l : Launch} {D : va_G} {ad : Nat → Nat} {cI cL : ClassId} (hfl : l.flags = flags0) (hok : adOK ad) (μ : Mem) (L pr : Int32) (k : Nat) {n : Nat} (hc : μ 1 0 = nI n) (hT : TV n (μ 1 1) (μ 3)) (hL : sm L) (hk : k ≤ 16) : CtI l D ad cI cL yX0_left wsX0_left (RM 3 67) [.ref (ad 12), .int L, .int pr, .int (nI k)] μ (fun (r : Int32) (μ' : Mem) => r = coreI (μ 3) pr k L ∧ μ' = μ) := by
  refine ct_i (cc := cX0_left) (maxL := 7) (own := RX0) .int hfl hok (by decide) rfl rfl rfl (Nat.le_of_ble_eq_true rfl) (fun p e s m below meth c C hr => ?_)
  refine go_lv (lv' := [some (.ref (ad 12)), some (.int L), some (.int pr), some (.int (nI k)), none, none, none]) rfl ?_
  have key : ∀ i, i ≤ 17 → Go p l e (headSpec wsX0_left (RM 3 67)).room s m ([.ref (ad 12), .int L, .int pr, .int (nI k)] : List Value).toArray below meth c 0 0 (MQ below (va_Qi (fun (r : Int32) (μ' : Mem) => r = coreI (μ 3) pr k L ∧ μ' = μ) (fun μ' t => PreW D ad cI cL μ' t) (AW ad)) ([.ref (ad 12), .int L, .int pr, .int (nI k)] : List Value).toArray s 0 0 (AW ad)) (AW ad) D ad cI cL 7 6 [some (.ref (ad 12)), some (.int L), some (.int pr), some (.int (nI k)), some (.int (itr (holdI (μ 3) k pr) i L)), some (.int (nI i)), none] [] (μ) := by
    refine dn_ind ?_ ?_
    · refine go_iload5 C (pc := 6) dX0_left_6 ?_
      refine go_bipush C (pc := 8) (v := 16) (by decide) dX0_left_8 ?_
      refine go_icmp_gt C (pc := 10) (tgt := 43) dX0_left_10 (by decide) (fun h10 => ?_) (fun h10 => ?_)
      · refine go_iload4 C (pc := 43) dX0_left_43 ?_
        exact go_iret C hr dX0_left_45 (⟨rfl, rfl⟩)
      · exact absurd (by decide) h10
    · intro i hi ih
      refine go_iload5 C (pc := 6) dX0_left_6 ?_
      refine go_bipush C (pc := 8) (v := 16) (by decide) dX0_left_8 ?_
      refine go_icmp_gt C (pc := 10) (tgt := 43) dX0_left_10 (by decide) (fun h10 => ?_) (fun h10 => ?_)
      · exact absurd h10 (by rw [nI16, nI_ltI (by decide) (by omega)]; omega)
      · refine go_aload0 C (pc := 13) dX0_left_13 ?_
        refine go_iload4 C (pc := 14) dX0_left_14 ?_
        refine go_iload2 C (pc := 16) dX0_left_16 ?_
        refine go_iload3 C (pc := 17) dX0_left_17 ?_
        refine go_ciV3 C (pc := 18) obj_12 (c_X0_holding C.fl C.ok _ _ _ _ hc hT (sm_itr hL i) hk) gX0_left_X0_holding rfl rfl yok_X0_holding ⟨rfl, rfl⟩ ⟨Nat.le_of_ble_eq_true rfl, Nat.le_of_ble_eq_true rfl⟩ (Nat.le_of_ble_eq_true rfl) ⟨Nat.zero_le _, Nat.zero_le _⟩ dX0_left_18 (fun r3 μ3 hc3 => ?_)
        obtain ⟨rfl, hm3⟩ := hc3
        replace hm3 := hm3.symm
        subst hm3
        refine go_istore6 C (pc := 21) dX0_left_21 ?_
        refine go_iload6 C (pc := 23) dX0_left_23 ?_
        refine go_iload4 C (pc := 25) dX0_left_25 ?_
        refine go_icmp_ne C (pc := 27) (tgt := 33) dX0_left_27 (by decide) (fun h27 => ?_) (fun h27 => ?_)
        · refine go_iload6 C (pc := 33) dX0_left_33 ?_
          refine go_istore4 C (pc := 35) dX0_left_35 ?_
          refine go_iinc5 C (pc := 37) (v := 1) dX0_left_37 (by decide) ?_
          refine go_goto C (pc := 40) (tgt := 6) dX0_left_40 (by decide) ?_
          exact go_drop6 (go_lv (by rw [nI_1]; rfl) ih)
        · refine go_iload4 C (pc := 30) dX0_left_30 ?_
          exact go_iret C hr dX0_left_32 (⟨(itr_fix (f := holdI (μ 3) k pr) (by exact h27) 17 (by omega)).symm, rfl⟩)
  refine go_iload1 C (pc := 0) dX0_left_0 ?_
  refine go_istore4 C (pc := 1) dX0_left_1 ?_
  refine go_iconst C (pc := 3) (v := 0) (by decide) dX0_left_3 ?_
  refine go_istore5 C (pc := 4) dX0_left_4 ?_
  exact go_lv (by rw [nI_0]; rfl) (key 0 (Nat.zero_le _))

def coreF (th : Nat → Int32) (pr : Int32) (n : Nat) (j : Nat) : Nat → Bool := fun k => bt (coreI th pr k (allI n)) j
/-- the core number -/
def coreN (th : Nat → Int32) (pr : Int32) (n : Nat) (j : Nat) : Nat := topK (coreF th pr n j) 15
theorem pos_le {k : Nat} (hk : 0 < k) (h2 : k < 2 ^ 31) (h : nI k ≤ 0) : False := nI_nle hk h2 h
theorem zle : nI 0 ≤ 0 := by decide +kernel
theorem yok_X0_numberByPeeling : yOK yX0_numberByPeeling 1 := by unfold yOK; decide +kernel
theorem hi_X0_numberByPeeling_RX0 : ∀ w ∈ wsX00, w ∈ wsX0_numberByPeeling := by decide +kernel
theorem lk_X0_numberByPeeling_20 : Cond.fieldLink RX0 20 "ThornCores$Cores" "thicket" "LThornCores$Thicket;" ∈ wsX0_numberByPeeling := by decide +kernel
theorem hi_X0_numberByPeeling_RX5 : ∀ w ∈ wsX50, w ∈ wsX0_numberByPeeling := by decide +kernel
theorem lw_X0_numberByPeeling_s_X7_in : Cond.static yX7_in ∈ wsX0_numberByPeeling := by decide +kernel
theorem lw_X0_numberByPeeling_i_X7_in : Cond.initialized RX7 ∈ wsX0_numberByPeeling := by decide +kernel
set_option maxRecDepth 20000 in
set_option maxHeartbeats 4000000 in
theorem c_X0_numberByPeeling {l : Launch} {D : va_G} {ad : Nat → Nat} {cI cL : ClassId} (hfl : l.flags = flags0) (hok : adOK ad) (μ : Mem) (j : Nat) {n : Nat} (hc : μ 1 0 = nI n) (hT : TV n (μ 1 1) (μ 3)) (hj : j < 16) : CtI l D ad cI cL yX0_numberByPeeling wsX0_numberByPeeling (RM 4 93) [.ref (ad 12), .int (nI j)] μ (fun (r : Int32) (μ' : Mem) => r = nI (coreN (μ 3) (μ 1 1) n j) ∧ μ' = μ) := by
  refine ct_i (cc := cX0_numberByPeeling) (maxL := 3) (own := RX0) .int hfl hok (by decide) rfl rfl rfl (Nat.le_of_ble_eq_true rfl) (fun p e s m below meth c C hr => ?_)
  refine go_lv (lv' := [some (.ref (ad 12)), some (.int (nI j)), none]) rfl ?_
  have key : ∀ k, k ≤ 15 → topK (coreF (μ 3) (μ 1 1) n j) 15 = topK (coreF (μ 3) (μ 1 1) n j) k → Go p l e (headSpec wsX0_numberByPeeling (RM 4 93)).room s m ([.ref (ad 12), .int (nI j)] : List Value).toArray below meth c 0 0 (MQ below (va_Qi (fun (r : Int32) (μ' : Mem) => r = nI (coreN (μ 3) (μ 1 1) n j) ∧ μ' = μ) (fun μ' t => PreW D ad cI cL μ' t) (AW ad)) ([.ref (ad 12), .int (nI j)] : List Value).toArray s 0 0 (AW ad)) (AW ad) D ad cI cL 3 3 [some (.ref (ad 12)), some (.int (nI j)), some (.int (nI k))] [] (μ) := by
    intro k
    induction k with
    | zero =>
      intro _ htop
      refine go_iload2 C (pc := 3) dX0_numberByPeeling_3 ?_
      refine go_if_le C (pc := 4) (tgt := 41) dX0_numberByPeeling_4 (by decide) (fun h4 => ?_) (fun h4 => ?_)
      · refine go_iconst C (pc := 41) (v := 0) (by decide) dX0_numberByPeeling_41 ?_
        exact go_iret C hr dX0_numberByPeeling_42 (⟨by rw [coreN, htop, topK, nI_0], rfl⟩)
      · exact absurd zle h4
    | succ k ih =>
      intro hk htop
      refine go_iload2 C (pc := 3) dX0_numberByPeeling_3 ?_
      refine go_if_le C (pc := 4) (tgt := 41) dX0_numberByPeeling_4 (by decide) (fun h4 => ?_) (fun h4 => ?_)
      · exact (pos_le (by omega) (by omega) h4).elim
      · refine go_aload0 C (pc := 7) dX0_numberByPeeling_7 ?_
        refine go_aload0 C (pc := 8) dX0_numberByPeeling_8 ?_
        refine go_get C (pc := 9) 12 (by decide) rfl rfl 0 (by decide) rfl rfl hi_X0_numberByPeeling_RX0 lk_X0_numberByPeeling_20 dX0_numberByPeeling_9 ?_
        refine go_ciV0 C (pc := 12) obj_1 (c_X5_plantsN C.fl C.ok _ hc) gX0_numberByPeeling_X5_plants rfl rfl yok_X5_plants ⟨rfl, rfl⟩ ⟨Nat.le_of_ble_eq_true rfl, Nat.le_of_ble_eq_true rfl⟩ (Nat.le_of_ble_eq_true rfl) ⟨Nat.zero_le _, Nat.zero_le _⟩ dX0_numberByPeeling_12 (fun r3 μ3 hc3 => ?_)
        obtain ⟨rfl, hm3⟩ := hc3
        replace hm3 := hm3.symm
        subst hm3
        refine go_aload0 C (pc := 15) dX0_numberByPeeling_15 ?_
        refine go_get C (pc := 16) 12 (by decide) rfl rfl 0 (by decide) rfl rfl hi_X0_numberByPeeling_RX0 lk_X0_numberByPeeling_20 dX0_numberByPeeling_16 ?_
        refine go_getN C (pc := 19) 1 (by decide) rfl rfl 1 (by decide) rfl rfl hi_X0_numberByPeeling_RX5 (host := "ThornCores") (by decide +kernel) dX0_numberByPeeling_19 ?_
        refine go_iload2 C (pc := 22) dX0_numberByPeeling_22 ?_
        refine go_ciV3 C (pc := 23) obj_12 (c_X0_left C.fl C.ok _ _ _ _ hc hT (sm_all hT.1) (by omega)) gX0_numberByPeeling_X0_left rfl rfl yok_X0_left ⟨rfl, rfl⟩ ⟨Nat.le_of_ble_eq_true rfl, Nat.le_of_ble_eq_true rfl⟩ (Nat.le_of_ble_eq_true rfl) ⟨Nat.zero_le _, Nat.zero_le _⟩ dX0_numberByPeeling_23 (fun r4 μ4 hc4 => ?_)
        obtain ⟨rfl, hm4⟩ := hc4
        replace hm4 := hm4.symm
        subst hm4
        refine go_iload1 C (pc := 26) dX0_numberByPeeling_26 ?_
        refine go_ciSN2 C (pc := 27) (host := "ThornCores") (c_X7_inN C.fl C.ok _ _ _ (by omega)) gX0_numberByPeeling_X7_in_n28 rfl (by decide +kernel) lw_X0_numberByPeeling_s_X7_in lw_X0_numberByPeeling_i_X7_in yok_X7_in ⟨rfl, rfl⟩ ⟨Nat.le_of_ble_eq_true rfl, Nat.le_of_ble_eq_true rfl⟩ (Nat.le_of_ble_eq_true rfl) ⟨Nat.zero_le _, Nat.zero_le _⟩ dX0_numberByPeeling_27 (fun r5 μ5 hc5 => ?_)
        obtain ⟨rfl, hm5⟩ := hc5
        replace hm5 := hm5.symm
        subst hm5
        refine go_if_eq C (pc := 30) (tgt := 35) dX0_numberByPeeling_30 (by decide) (fun h30 => ?_) (fun h30 => ?_)
        · refine go_iinc2 C (pc := 35) (v := -1) dX0_numberByPeeling_35 (by decide) ?_
          refine go_goto C (pc := 38) (tgt := 3) dX0_numberByPeeling_38 (by decide) ?_
          exact go_lv (by rw [pk_m1]) (ih (by omega) (by rw [htop, topK, if_neg (by simp only [coreF]; rw [bpos h30]; decide)]))
        · refine go_iload2 C (pc := 33) dX0_numberByPeeling_33 ?_
          exact go_iret C hr dX0_numberByPeeling_34 (⟨by rw [coreN, htop, topK, if_pos (by simp only [coreF]; exact bneg h30)], rfl⟩)
  refine go_bipush C (pc := 0) (v := 15) (by decide) dX0_numberByPeeling_0 ?_
  refine go_istore2 C (pc := 2) dX0_numberByPeeling_2 ?_
  exact key 15 (Nat.le_refl _) rfl

def freeF (th : Nat → Int32) (pr : Int32) (n : Nat) : Nat → Bool := fun k => !decide (coreI th pr k (allI n) &&& (pr ^^^ (-1)) = 0)
def freeN (th : Nat → Int32) (pr : Int32) (n : Nat) : Nat := topK (freeF th pr n) 15
theorem yok_X0_greatestUnpropped : yOK yX0_greatestUnpropped 0 := by unfold yOK; decide +kernel
theorem hi_X0_greatestUnpropped_RX0 : ∀ w ∈ wsX00, w ∈ wsX0_greatestUnpropped := by decide +kernel
theorem lk_X0_greatestUnpropped_20 : Cond.fieldLink RX0 20 "ThornCores$Cores" "thicket" "LThornCores$Thicket;" ∈ wsX0_greatestUnpropped := by decide +kernel
theorem hi_X0_greatestUnpropped_RX5 : ∀ w ∈ wsX50, w ∈ wsX0_greatestUnpropped := by decide +kernel
set_option maxRecDepth 20000 in
set_option maxHeartbeats 4000000 in
theorem c_X0_greatestUnpropped {l : Launch} {D : va_G} {ad : Nat → Nat} {cI cL : ClassId} (hfl : l.flags = flags0) (hok : adOK ad) (μ : Mem) {n : Nat} (hc : μ 1 0 = nI n) (hT : TV n (μ 1 1) (μ 3)) : CtI l D ad cI cL yX0_greatestUnpropped wsX0_greatestUnpropped (RM 4 93) [.ref (ad 12)] μ (fun (r : Int32) (μ' : Mem) => r = nI (freeN (μ 3) (μ 1 1) n) ∧ μ' = μ) := by
  refine ct_i (cc := cX0_greatestUnpropped) (maxL := 2) (own := RX0) .int hfl hok (by decide) rfl rfl rfl (Nat.le_of_ble_eq_true rfl) (fun p e s m below meth c C hr => ?_)
  refine go_lv (lv' := [some (.ref (ad 12)), none]) rfl ?_
  have key : ∀ k, k ≤ 15 → topK (freeF (μ 3) (μ 1 1) n) 15 = topK (freeF (μ 3) (μ 1 1) n) k → Go p l e (headSpec wsX0_greatestUnpropped (RM 4 93)).room s m ([.ref (ad 12)] : List Value).toArray below meth c 0 0 (MQ below (va_Qi (fun (r : Int32) (μ' : Mem) => r = nI (freeN (μ 3) (μ 1 1) n) ∧ μ' = μ) (fun μ' t => PreW D ad cI cL μ' t) (AW ad)) ([.ref (ad 12)] : List Value).toArray s 0 0 (AW ad)) (AW ad) D ad cI cL 2 3 [some (.ref (ad 12)), some (.int (nI k))] [] (μ) := by
    intro k
    induction k with
    | zero =>
      intro _ htop
      refine go_iload1 C (pc := 3) dX0_greatestUnpropped_3 ?_
      refine go_if_le C (pc := 4) (tgt := 47) dX0_greatestUnpropped_4 (by decide) (fun h4 => ?_) (fun h4 => ?_)
      · refine go_iconst C (pc := 47) (v := 0) (by decide) dX0_greatestUnpropped_47 ?_
        exact go_iret C hr dX0_greatestUnpropped_48 (⟨by rw [freeN, htop, topK, nI_0], rfl⟩)
      · exact absurd zle h4
    | succ k ih =>
      intro hk htop
      refine go_iload1 C (pc := 3) dX0_greatestUnpropped_3 ?_
      refine go_if_le C (pc := 4) (tgt := 47) dX0_greatestUnpropped_4 (by decide) (fun h4 => ?_) (fun h4 => ?_)
      · exact (pos_le (by omega) (by omega) h4).elim
      · refine go_aload0 C (pc := 7) dX0_greatestUnpropped_7 ?_
        refine go_aload0 C (pc := 8) dX0_greatestUnpropped_8 ?_
        refine go_get C (pc := 9) 12 (by decide) rfl rfl 0 (by decide) rfl rfl hi_X0_greatestUnpropped_RX0 lk_X0_greatestUnpropped_20 dX0_greatestUnpropped_9 ?_
        refine go_ciV0 C (pc := 12) obj_1 (c_X5_plantsN C.fl C.ok _ hc) gX0_greatestUnpropped_X5_plants rfl rfl yok_X5_plants ⟨rfl, rfl⟩ ⟨Nat.le_of_ble_eq_true rfl, Nat.le_of_ble_eq_true rfl⟩ (Nat.le_of_ble_eq_true rfl) ⟨Nat.zero_le _, Nat.zero_le _⟩ dX0_greatestUnpropped_12 (fun r3 μ3 hc3 => ?_)
        obtain ⟨rfl, hm3⟩ := hc3
        replace hm3 := hm3.symm
        subst hm3
        refine go_aload0 C (pc := 15) dX0_greatestUnpropped_15 ?_
        refine go_get C (pc := 16) 12 (by decide) rfl rfl 0 (by decide) rfl rfl hi_X0_greatestUnpropped_RX0 lk_X0_greatestUnpropped_20 dX0_greatestUnpropped_16 ?_
        refine go_getN C (pc := 19) 1 (by decide) rfl rfl 1 (by decide) rfl rfl hi_X0_greatestUnpropped_RX5 (host := "ThornCores") (by decide +kernel) dX0_greatestUnpropped_19 ?_
        refine go_iload1 C (pc := 22) dX0_greatestUnpropped_22 ?_
        refine go_ciV3 C (pc := 23) obj_12 (c_X0_left C.fl C.ok _ _ _ _ hc hT (sm_all hT.1) (by omega)) gX0_greatestUnpropped_X0_left rfl rfl yok_X0_left ⟨rfl, rfl⟩ ⟨Nat.le_of_ble_eq_true rfl, Nat.le_of_ble_eq_true rfl⟩ (Nat.le_of_ble_eq_true rfl) ⟨Nat.zero_le _, Nat.zero_le _⟩ dX0_greatestUnpropped_23 (fun r4 μ4 hc4 => ?_)
        obtain ⟨rfl, hm4⟩ := hc4
        replace hm4 := hm4.symm
        subst hm4
        refine go_aload0 C (pc := 26) dX0_greatestUnpropped_26 ?_
        refine go_get C (pc := 27) 12 (by decide) rfl rfl 0 (by decide) rfl rfl hi_X0_greatestUnpropped_RX0 lk_X0_greatestUnpropped_20 dX0_greatestUnpropped_27 ?_
        refine go_getN C (pc := 30) 1 (by decide) rfl rfl 1 (by decide) rfl rfl hi_X0_greatestUnpropped_RX5 (host := "ThornCores") (by decide +kernel) dX0_greatestUnpropped_30 ?_
        refine go_iconst C (pc := 33) (v := -1) (by decide) dX0_greatestUnpropped_33 ?_
        refine go_ixor C (pc := 34) dX0_greatestUnpropped_34 ?_
        refine go_iand C (pc := 35) dX0_greatestUnpropped_35 ?_
        refine go_if_eq C (pc := 36) (tgt := 41) dX0_greatestUnpropped_36 (by decide) (fun h36 => ?_) (fun h36 => ?_)
        · refine go_iinc1 C (pc := 41) (v := -1) dX0_greatestUnpropped_41 (by decide) ?_
          refine go_goto C (pc := 44) (tgt := 3) dX0_greatestUnpropped_44 (by decide) ?_
          exact go_lv (by rw [pk_m1]) (ih (by omega) (by rw [htop, topK, if_neg (by rw [freeF, decide_eq_true h36]; decide)]))
        · refine go_iload1 C (pc := 39) dX0_greatestUnpropped_39 ?_
          exact go_iret C hr dX0_greatestUnpropped_40 (⟨by rw [freeN, htop, topK, if_pos (by rw [freeF, decide_eq_false h36]; decide)], rfl⟩)
  refine go_bipush C (pc := 0) (v := 15) (by decide) dX0_greatestUnpropped_0 ?_
  refine go_istore1 C (pc := 2) dX0_greatestUnpropped_2 ?_
  exact key 15 (Nat.le_refl _) rfl

def growI (th : Nat → Int32) (core : Int32) (piece : Int32) : Nat → Int32
  | 0 => piece
  | i + 1 => if bt piece i = true then growI th core piece i ||| (th i &&& core) else growI th core piece i
def pieceI (th : Nat → Int32) (core : Int32) (j : Nat) : Int32 := itr (fun x => growI th core x 16) 16 (bitI (nI j))
theorem yok_X0_pieceOf : yOK yX0_pieceOf 2 := by unfold yOK; decide +kernel
theorem lw_X0_pieceOf_s_X7_in : Cond.static yX7_in ∈ wsX0_pieceOf := by decide +kernel
theorem lw_X0_pieceOf_i_X7_in : Cond.initialized RX7 ∈ wsX0_pieceOf := by decide +kernel
theorem hi_X0_pieceOf_RX0 : ∀ w ∈ wsX00, w ∈ wsX0_pieceOf := by decide +kernel
theorem lk_X0_pieceOf_20 : Cond.fieldLink RX0 20 "ThornCores$Cores" "thicket" "LThornCores$Thicket;" ∈ wsX0_pieceOf := by decide +kernel
theorem lw_X0_pieceOf_s_X7_bit : Cond.static yX7_bit ∈ wsX0_pieceOf := by decide +kernel
theorem lw_X0_pieceOf_i_X7_bit : Cond.initialized RX7 ∈ wsX0_pieceOf := by decide +kernel
set_option maxRecDepth 20000 in
set_option maxHeartbeats 4000000 in
theorem c_X0_pieceOf {l : Launch} {D : va_G} {ad : Nat → Nat} {cI cL : ClassId} (hfl : l.flags = flags0) (hok : adOK ad) (μ : Mem) (j : Nat) (core : Int32) {n : Nat} (hc : μ 1 0 = nI n) (hT : TV n (μ 1 1) (μ 3)) (hj : j < 16) : CtI l D ad cI cL yX0_pieceOf wsX0_pieceOf (RM 2 42) [.ref (ad 12), .int (nI j), .int core] μ (fun (r : Int32) (μ' : Mem) => r = pieceI (μ 3) core j ∧ μ' = μ) := by
  refine ct_i (cc := cX0_pieceOf) (maxL := 7) (own := RX0) .int hfl hok (by decide) rfl rfl rfl (Nat.le_of_ble_eq_true rfl) (fun p e s m below meth c C hr => ?_)
  refine go_lv (lv' := [some (.ref (ad 12)), some (.int (nI j)), some (.int core), none, none, none, none]) rfl ?_
  have key : ∀ i, i ≤ 16 → Go p l e (headSpec wsX0_pieceOf (RM 2 42)).room s m ([.ref (ad 12), .int (nI j), .int core] : List Value).toArray below meth c 0 0 (MQ below (va_Qi (fun (r : Int32) (μ' : Mem) => r = pieceI (μ 3) core j ∧ μ' = μ) (fun μ' t => PreW D ad cI cL μ' t) (AW ad)) ([.ref (ad 12), .int (nI j), .int core] : List Value).toArray s 0 0 (AW ad)) (AW ad) D ad cI cL 7 8 [some (.ref (ad 12)), some (.int (nI j)), some (.int core), some (.int (itr (fun x => growI (μ 3) core x 16) i (bitI (nI j)))), some (.int (nI i)), none, none] [] (μ) := by
    refine dn_ind ?_ ?_
    · refine go_iload4 C (pc := 8) dX0_pieceOf_8 ?_
      refine go_bipush C (pc := 10) (v := 16) (by decide) dX0_pieceOf_10 ?_
      refine go_icmp_ge C (pc := 12) (tgt := 77) dX0_pieceOf_12 (by decide) (fun h12 => ?_) (fun h12 => ?_)
      · refine go_iload3 C (pc := 77) dX0_pieceOf_77 ?_
        exact go_iret C hr dX0_pieceOf_78 (⟨rfl, rfl⟩)
      · exact absurd (cnt_le nI16 (Nat.le_refl _) (by omega)) h12
    · intro i hi ih
      obtain ⟨x, hx⟩ : ∃ x, x = itr (fun x => growI (μ 3) core x 16) i (bitI (nI j)) := ⟨_, rfl⟩
      rw [← hx]
      have key2 : ∀ u, u ≤ 16 → Go p l e (headSpec wsX0_pieceOf (RM 2 42)).room s m ([.ref (ad 12), .int (nI j), .int core] : List Value).toArray below meth c 0 0 (MQ below (va_Qi (fun (r : Int32) (μ' : Mem) => r = pieceI (μ 3) core j ∧ μ' = μ) (fun μ' t => PreW D ad cI cL μ' t) (AW ad)) ([.ref (ad 12), .int (nI j), .int core] : List Value).toArray s 0 0 (AW ad)) (AW ad) D ad cI cL 7 21 [some (.ref (ad 12)), some (.int (nI j)), some (.int core), some (.int x), some (.int (nI i)), some (.int (growI (μ 3) core x u)), some (.int (nI u))] [] (μ) := by
        refine dn_ind ?_ ?_
        · refine go_iload6 C (pc := 21) dX0_pieceOf_21 ?_
          refine go_bipush C (pc := 23) (v := 16) (by decide) dX0_pieceOf_23 ?_
          refine go_icmp_ge C (pc := 25) (tgt := 59) dX0_pieceOf_25 (by decide) (fun h25 => ?_) (fun h25 => ?_)
          · refine go_iload5 C (pc := 59) dX0_pieceOf_59 ?_
            refine go_iload3 C (pc := 61) dX0_pieceOf_61 ?_
            refine go_icmp_ne C (pc := 62) (tgt := 68) dX0_pieceOf_62 (by decide) (fun h62 => ?_) (fun h62 => ?_)
            · refine go_iload5 C (pc := 68) dX0_pieceOf_68 ?_
              refine go_istore3 C (pc := 70) dX0_pieceOf_70 ?_
              refine go_iinc4 C (pc := 71) (v := 1) dX0_pieceOf_71 (by decide) ?_
              refine go_goto C (pc := 74) (tgt := 8) dX0_pieceOf_74 (by decide) ?_
              exact go_drop6 (go_drop5 (go_lv (by rw [nI_1, itr, ← hx]) ih))
            · refine go_goto C (pc := 65) (tgt := 77) dX0_pieceOf_65 (by decide) ?_
              refine go_iload3 C (pc := 77) dX0_pieceOf_77 ?_
              exact go_iret C hr dX0_pieceOf_78 (⟨by rw [pieceI, itr_fix (f := fun x => growI (μ 3) core x 16) (i := i) (by rw [← hx]; exact h62) 16 (by omega), ← hx], rfl⟩)
          · exact absurd (cnt_le nI16 (Nat.le_refl _) (by omega)) h25
        · intro u hu ih2
          refine go_iload6 C (pc := 21) dX0_pieceOf_21 ?_
          refine go_bipush C (pc := 23) (v := 16) (by decide) dX0_pieceOf_23 ?_
          refine go_icmp_ge C (pc := 25) (tgt := 59) dX0_pieceOf_25 (by decide) (fun h25 => ?_) (fun h25 => ?_)
          · exact absurd h25 (cnt_nle nI16 hu (by omega))
          · refine go_iload3 C (pc := 28) dX0_pieceOf_28 ?_
            refine go_iload6 C (pc := 29) dX0_pieceOf_29 ?_
            refine go_ciSN2 C (pc := 31) (host := "ThornCores") (c_X7_inN C.fl C.ok _ _ _ (by omega)) gX0_pieceOf_X7_in_n28 rfl (by decide +kernel) lw_X0_pieceOf_s_X7_in lw_X0_pieceOf_i_X7_in yok_X7_in ⟨rfl, rfl⟩ ⟨Nat.le_of_ble_eq_true rfl, Nat.le_of_ble_eq_true rfl⟩ (Nat.le_of_ble_eq_true rfl) ⟨Nat.zero_le _, Nat.zero_le _⟩ dX0_pieceOf_31 (fun r5 μ5 hc5 => ?_)
            obtain ⟨rfl, hm5⟩ := hc5
            replace hm5 := hm5.symm
            subst hm5
            refine go_if_eq C (pc := 34) (tgt := 53) dX0_pieceOf_34 (by decide) (fun h34 => ?_) (fun h34 => ?_)
            · refine go_iinc6 C (pc := 53) (v := 1) dX0_pieceOf_53 (by decide) ?_
              refine go_goto C (pc := 56) (tgt := 21) dX0_pieceOf_56 (by decide) ?_
              exact go_lv (by rw [nI_1, growI, if_neg (by rw [bpos h34]; decide)]) ih2
            · refine go_iload5 C (pc := 37) dX0_pieceOf_37 ?_
              refine go_aload0 C (pc := 39) dX0_pieceOf_39 ?_
              refine go_get C (pc := 40) 12 (by decide) rfl rfl 0 (by decide) rfl rfl hi_X0_pieceOf_RX0 lk_X0_pieceOf_20 dX0_pieceOf_40 ?_
              refine go_iload6 C (pc := 43) dX0_pieceOf_43 ?_
              refine go_ciV1 C (pc := 45) obj_1 (c_X5_aroundN C.fl C.ok _ _ (by omega)) gX0_pieceOf_X5_around rfl rfl yok_X5_around ⟨rfl, rfl⟩ ⟨Nat.le_of_ble_eq_true rfl, Nat.le_of_ble_eq_true rfl⟩ (Nat.le_of_ble_eq_true rfl) ⟨Nat.zero_le _, Nat.zero_le _⟩ dX0_pieceOf_45 (fun r7 μ7 hc7 => ?_)
              obtain ⟨rfl, hm7⟩ := hc7
              replace hm7 := hm7.symm
              subst hm7
              refine go_iload2 C (pc := 48) dX0_pieceOf_48 ?_
              refine go_iand C (pc := 49) dX0_pieceOf_49 ?_
              refine go_ior C (pc := 50) dX0_pieceOf_50 ?_
              refine go_istore5 C (pc := 51) dX0_pieceOf_51 ?_
              refine go_iinc6 C (pc := 53) (v := 1) dX0_pieceOf_53 (by decide) ?_
              refine go_goto C (pc := 56) (tgt := 21) dX0_pieceOf_56 (by decide) ?_
              exact go_lv (by rw [nI_1, growI, if_pos (bneg h34)]) ih2
      refine go_iload4 C (pc := 8) dX0_pieceOf_8 ?_
      refine go_bipush C (pc := 10) (v := 16) (by decide) dX0_pieceOf_10 ?_
      refine go_icmp_ge C (pc := 12) (tgt := 77) dX0_pieceOf_12 (by decide) (fun h12 => ?_) (fun h12 => ?_)
      · exact absurd h12 (cnt_nle nI16 hi (by omega))
      · refine go_iload3 C (pc := 15) dX0_pieceOf_15 ?_
        refine go_istore5 C (pc := 16) dX0_pieceOf_16 ?_
        refine go_iconst C (pc := 18) (v := 0) (by decide) dX0_pieceOf_18 ?_
        refine go_istore6 C (pc := 19) dX0_pieceOf_19 ?_
        exact go_lv (by rw [nI_0]; rfl) (key2 0 (Nat.zero_le _))
  refine go_iload1 C (pc := 0) dX0_pieceOf_0 ?_
  refine go_ciSN1 C (pc := 1) (host := "ThornCores") (c_X7_bit C.fl C.ok _ _ ) gX0_pieceOf_X7_bit_n41 rfl (by decide +kernel) lw_X0_pieceOf_s_X7_bit lw_X0_pieceOf_i_X7_bit yok_X7_bit ⟨rfl, rfl⟩ ⟨Nat.le_of_ble_eq_true rfl, Nat.le_of_ble_eq_true rfl⟩ (Nat.le_of_ble_eq_true rfl) ⟨Nat.zero_le _, Nat.zero_le _⟩ dX0_pieceOf_1 (fun r9 μ9 hc9 => ?_)
  obtain ⟨rfl, hm9⟩ := hc9
  replace hm9 := hm9.symm
  subst hm9
  refine go_istore3 C (pc := 4) dX0_pieceOf_4 ?_
  refine go_iconst C (pc := 5) (v := 0) (by decide) dX0_pieceOf_5 ?_
  refine go_istore4 C (pc := 6) dX0_pieceOf_6 ?_
  exact go_lv (by rw [nI_0]; rfl) (key 0 (Nat.zero_le _))

/-- the pieces found among the first i plants, and what is left of the core then -/
def piecesI (th : Nat → Int32) (core : Int32) : Nat → Nat × Int32
  | 0 => (0, core)
  | i + 1 => if bt (piecesI th core i).2 i = true then ((piecesI th core i).1 + 1, (piecesI th core i).2 &&& (pieceI th core i ^^^ (-1))) else piecesI th core i
theorem yok_X0_pieces : yOK yX0_pieces 1 := by unfold yOK; decide +kernel
theorem lw_X0_pieces_s_X7_in : Cond.static yX7_in ∈ wsX0_pieces := by decide +kernel
theorem lw_X0_pieces_i_X7_in : Cond.initialized RX7 ∈ wsX0_pieces := by decide +kernel
set_option maxRecDepth 20000 in
set_option maxHeartbeats 4000000 in
theorem c_X0_pieces {l : Launch} {D : va_G} {ad : Nat → Nat} {cI cL : ClassId} (hfl : l.flags = flags0) (hok : adOK ad) (μ : Mem) (core : Int32) {n : Nat} (hc : μ 1 0 = nI n) (hT : TV n (μ 1 1) (μ 3)) : CtI l D ad cI cL yX0_pieces wsX0_pieces (RM 3 68) [.ref (ad 12), .int core] μ (fun (r : Int32) (μ' : Mem) => r = nI (piecesI (μ 3) core 16).1 ∧ μ' = μ) := by
  refine ct_i (cc := cX0_pieces) (maxL := 5) (own := RX0) .int hfl hok (by decide) rfl rfl rfl (Nat.le_of_ble_eq_true rfl) (fun p e s m below meth c C hr => ?_)
  refine go_lv (lv' := [some (.ref (ad 12)), some (.int core), none, none, none]) rfl ?_
  have key : ∀ i, i ≤ 16 → Go p l e (headSpec wsX0_pieces (RM 3 68)).room s m ([.ref (ad 12), .int core] : List Value).toArray below meth c 0 0 (MQ below (va_Qi (fun (r : Int32) (μ' : Mem) => r = nI (piecesI (μ 3) core 16).1 ∧ μ' = μ) (fun μ' t => PreW D ad cI cL μ' t) (AW ad)) ([.ref (ad 12), .int core] : List Value).toArray s 0 0 (AW ad)) (AW ad) D ad cI cL 5 7 [some (.ref (ad 12)), some (.int core), some (.int (nI (piecesI (μ 3) core i).1)), some (.int (piecesI (μ 3) core i).2), some (.int (nI i))] [] (μ) := by
    refine dn_ind ?_ ?_
    · refine go_iload4 C (pc := 7) dX0_pieces_7 ?_
      refine go_bipush C (pc := 9) (v := 16) (by decide) dX0_pieces_9 ?_
      refine go_icmp_ge C (pc := 11) (tgt := 44) dX0_pieces_11 (by decide) (fun h11 => ?_) (fun h11 => ?_)
      · refine go_iload2 C (pc := 44) dX0_pieces_44 ?_
        exact go_iret C hr dX0_pieces_45 (⟨rfl, rfl⟩)
      · exact absurd (cnt_le nI16 (Nat.le_refl _) (by omega)) h11
    · intro i hi ih
      refine go_iload4 C (pc := 7) dX0_pieces_7 ?_
      refine go_bipush C (pc := 9) (v := 16) (by decide) dX0_pieces_9 ?_
      refine go_icmp_ge C (pc := 11) (tgt := 44) dX0_pieces_11 (by decide) (fun h11 => ?_) (fun h11 => ?_)
      · exact absurd h11 (cnt_nle nI16 hi (by omega))
      · refine go_iload3 C (pc := 14) dX0_pieces_14 ?_
        refine go_iload4 C (pc := 15) dX0_pieces_15 ?_
        refine go_ciSN2 C (pc := 17) (host := "ThornCores") (c_X7_inN C.fl C.ok _ _ _ (by omega)) gX0_pieces_X7_in_n28 rfl (by decide +kernel) lw_X0_pieces_s_X7_in lw_X0_pieces_i_X7_in yok_X7_in ⟨rfl, rfl⟩ ⟨Nat.le_of_ble_eq_true rfl, Nat.le_of_ble_eq_true rfl⟩ (Nat.le_of_ble_eq_true rfl) ⟨Nat.zero_le _, Nat.zero_le _⟩ dX0_pieces_17 (fun r3 μ3 hc3 => ?_)
        obtain ⟨rfl, hm3⟩ := hc3
        replace hm3 := hm3.symm
        subst hm3
        refine go_if_eq C (pc := 20) (tgt := 38) dX0_pieces_20 (by decide) (fun h20 => ?_) (fun h20 => ?_)
        · refine go_iinc4 C (pc := 38) (v := 1) dX0_pieces_38 (by decide) ?_
          refine go_goto C (pc := 41) (tgt := 7) dX0_pieces_41 (by decide) ?_
          exact go_lv (by rw [nI_1, piecesI, if_neg (by rw [bpos h20]; decide)]) ih
        · refine go_iinc2 C (pc := 23) (v := 1) dX0_pieces_23 (by decide) ?_
          refine go_iload3 C (pc := 26) dX0_pieces_26 ?_
          refine go_aload0 C (pc := 27) dX0_pieces_27 ?_
          refine go_iload4 C (pc := 28) dX0_pieces_28 ?_
          refine go_iload1 C (pc := 30) dX0_pieces_30 ?_
          refine go_ciV2 C (pc := 31) obj_12 (c_X0_pieceOf C.fl C.ok _ _ _ hc hT (by omega)) gX0_pieces_X0_pieceOf rfl rfl yok_X0_pieceOf ⟨rfl, rfl⟩ ⟨Nat.le_of_ble_eq_true rfl, Nat.le_of_ble_eq_true rfl⟩ (Nat.le_of_ble_eq_true rfl) ⟨Nat.zero_le _, Nat.zero_le _⟩ dX0_pieces_31 (fun r5 μ5 hc5 => ?_)
          obtain ⟨rfl, hm5⟩ := hc5
          replace hm5 := hm5.symm
          subst hm5
          refine go_iconst C (pc := 34) (v := -1) (by decide) dX0_pieces_34 ?_
          refine go_ixor C (pc := 35) dX0_pieces_35 ?_
          refine go_iand C (pc := 36) dX0_pieces_36 ?_
          refine go_istore3 C (pc := 37) dX0_pieces_37 ?_
          refine go_iinc4 C (pc := 38) (v := 1) dX0_pieces_38 (by decide) ?_
          refine go_goto C (pc := 41) (tgt := 7) dX0_pieces_41 (by decide) ?_
          exact go_lv (by rw [nI_1, nI_1, piecesI, if_pos (bneg h20)]) ih
  refine go_iconst C (pc := 0) (v := 0) (by decide) dX0_pieces_0 ?_
  refine go_istore2 C (pc := 1) dX0_pieces_1 ?_
  refine go_iload1 C (pc := 2) dX0_pieces_2 ?_
  refine go_istore3 C (pc := 3) dX0_pieces_3 ?_
  refine go_iconst C (pc := 4) (v := 0) (by decide) dX0_pieces_4 ?_
  refine go_istore4 C (pc := 5) dX0_pieces_5 ?_
  exact go_lv (by rw [nI_0]; rfl) (key 0 (Nat.zero_le _))

def propSize (th : Nat → Int32) (pr : Int32) (n k : Nat) (p : Nat) : Nat := ct (coreI th (pr ||| bitI (nI p)) k (allI n))
/-- the best plant so far and its size, -1 for none -/
def bestI (th : Nat → Int32) (pr : Int32) (n k : Nat) : Nat → Nat × Int32
  | 0 => (0, -1)
  | i + 1 => if bt pr i = true then bestI th pr n k i else if (bestI th pr n k i).2 < nI (propSize th pr n k i) then (i, nI (propSize th pr n k i)) else bestI th pr n k i
theorem yok_X0_bestToProp : yOK yX0_bestToProp 1 := by unfold yOK; decide +kernel
theorem hi_X0_bestToProp_RX0 : ∀ w ∈ wsX00, w ∈ wsX0_bestToProp := by decide +kernel
theorem lk_X0_bestToProp_20 : Cond.fieldLink RX0 20 "ThornCores$Cores" "thicket" "LThornCores$Thicket;" ∈ wsX0_bestToProp := by decide +kernel
theorem hi_X0_bestToProp_RX5 : ∀ w ∈ wsX50, w ∈ wsX0_bestToProp := by decide +kernel
theorem lw_X0_bestToProp_s_X7_bit : Cond.static yX7_bit ∈ wsX0_bestToProp := by decide +kernel
theorem lw_X0_bestToProp_i_X7_bit : Cond.initialized RX7 ∈ wsX0_bestToProp := by decide +kernel
theorem lw_X0_bestToProp_s_X7_bits : Cond.static yX7_bits ∈ wsX0_bestToProp := by decide +kernel
theorem lw_X0_bestToProp_i_X7_bits : Cond.initialized RX7 ∈ wsX0_bestToProp := by decide +kernel
set_option maxRecDepth 20000 in
set_option maxHeartbeats 4000000 in
theorem c_X0_bestToProp {l : Launch} {D : va_G} {ad : Nat → Nat} {cI cL : ClassId} (hfl : l.flags = flags0) (hok : adOK ad) (μ : Mem) (k : Nat) {n : Nat} (hc : μ 1 0 = nI n) (hT : TV n (μ 1 1) (μ 3)) (hk : k ≤ 15) : CtI l D ad cI cL yX0_bestToProp wsX0_bestToProp (RM 4 93) [.ref (ad 12), .int (nI k)] μ (fun (r : Int32) (μ' : Mem) => r = nI (bestI (μ 3) (μ 1 1) n k n).1 ∧ μ' = μ) := by
  refine ct_i (cc := cX0_bestToProp) (maxL := 6) (own := RX0) .int hfl hok (by decide) rfl rfl rfl (Nat.le_of_ble_eq_true rfl) (fun p e s m below meth c C hr => ?_)
  refine go_lv (lv' := [some (.ref (ad 12)), some (.int (nI k)), none, none, none, none]) rfl ?_
  have hn := hT.1
  have key : ∀ i, i ≤ n → Go p l e (headSpec wsX0_bestToProp (RM 4 93)).room s m ([.ref (ad 12), .int (nI k)] : List Value).toArray below meth c 0 0 (MQ below (va_Qi (fun (r : Int32) (μ' : Mem) => r = nI (bestI (μ 3) (μ 1 1) n k n).1 ∧ μ' = μ) (fun μ' t => PreW D ad cI cL μ' t) (AW ad)) ([.ref (ad 12), .int (nI k)] : List Value).toArray s 0 0 (AW ad)) (AW ad) D ad cI cL 6 7 [some (.ref (ad 12)), some (.int (nI k)), some (.int (nI (bestI (μ 3) (μ 1 1) n k i).1)), some (.int (bestI (μ 3) (μ 1 1) n k i).2), some (.int (nI i)), none] [] (μ) := by
    refine dn_ind ?_ ?_
    · refine go_iload4 C (pc := 7) dX0_bestToProp_7 ?_
      refine go_aload0 C (pc := 9) dX0_bestToProp_9 ?_
      refine go_get C (pc := 10) 12 (by decide) rfl rfl 0 (by decide) rfl rfl hi_X0_bestToProp_RX0 lk_X0_bestToProp_20 dX0_bestToProp_10 ?_
      refine go_getN C (pc := 13) 1 (by decide) rfl rfl 0 (by decide) rfl rfl hi_X0_bestToProp_RX5 (host := "ThornCores") (by decide +kernel) dX0_bestToProp_13 ?_
      refine go_icmp_ge C (pc := 16) (tgt := 79) dX0_bestToProp_16 (by decide) (fun h16 => ?_) (fun h16 => ?_)
      · refine go_iload2 C (pc := 79) dX0_bestToProp_79 ?_
        exact go_iret C hr dX0_bestToProp_80 (⟨rfl, rfl⟩)
      · exact absurd (cnt_le hc (Nat.le_refl _) (by omega)) h16
    · intro i hi ih
      refine go_iload4 C (pc := 7) dX0_bestToProp_7 ?_
      refine go_aload0 C (pc := 9) dX0_bestToProp_9 ?_
      refine go_get C (pc := 10) 12 (by decide) rfl rfl 0 (by decide) rfl rfl hi_X0_bestToProp_RX0 lk_X0_bestToProp_20 dX0_bestToProp_10 ?_
      refine go_getN C (pc := 13) 1 (by decide) rfl rfl 0 (by decide) rfl rfl hi_X0_bestToProp_RX5 (host := "ThornCores") (by decide +kernel) dX0_bestToProp_13 ?_
      refine go_icmp_ge C (pc := 16) (tgt := 79) dX0_bestToProp_16 (by decide) (fun h16 => ?_) (fun h16 => ?_)
      · exact absurd h16 (cnt_nle hc hi (by omega))
      · refine go_aload0 C (pc := 19) dX0_bestToProp_19 ?_
        refine go_get C (pc := 20) 12 (by decide) rfl rfl 0 (by decide) rfl rfl hi_X0_bestToProp_RX0 lk_X0_bestToProp_20 dX0_bestToProp_20 ?_
        refine go_iload4 C (pc := 23) dX0_bestToProp_23 ?_
        refine go_ciV1 C (pc := 25) obj_1 (c_X5_hasPropN C.fl C.ok _ _ hc hT (by omega)) gX0_bestToProp_X5_hasProp rfl rfl yok_X5_hasProp ⟨rfl, rfl⟩ ⟨Nat.le_of_ble_eq_true rfl, Nat.le_of_ble_eq_true rfl⟩ (Nat.le_of_ble_eq_true rfl) ⟨Nat.zero_le _, Nat.zero_le _⟩ dX0_bestToProp_25 (fun r3 μ3 hc3 => ?_)
        obtain ⟨rfl, hm3⟩ := hc3
        replace hm3 := hm3.symm
        subst hm3
        refine go_if_ne C (pc := 28) (tgt := 73) dX0_bestToProp_28 (by decide) (fun h28 => ?_) (fun h28 => ?_)
        · refine go_iinc4 C (pc := 73) (v := 1) dX0_bestToProp_73 (by decide) ?_
          refine go_goto C (pc := 76) (tgt := 7) dX0_bestToProp_76 (by decide) ?_
          exact go_lv (by rw [nI_1, bestI, if_pos (bneg h28)]) ih
        · refine go_aload0 C (pc := 31) dX0_bestToProp_31 ?_
          refine go_aload0 C (pc := 32) dX0_bestToProp_32 ?_
          refine go_get C (pc := 33) 12 (by decide) rfl rfl 0 (by decide) rfl rfl hi_X0_bestToProp_RX0 lk_X0_bestToProp_20 dX0_bestToProp_33 ?_
          refine go_ciV0 C (pc := 36) obj_1 (c_X5_plantsN C.fl C.ok _ hc) gX0_bestToProp_X5_plants rfl rfl yok_X5_plants ⟨rfl, rfl⟩ ⟨Nat.le_of_ble_eq_true rfl, Nat.le_of_ble_eq_true rfl⟩ (Nat.le_of_ble_eq_true rfl) ⟨Nat.zero_le _, Nat.zero_le _⟩ dX0_bestToProp_36 (fun r5 μ5 hc5 => ?_)
          obtain ⟨rfl, hm5⟩ := hc5
          replace hm5 := hm5.symm
          subst hm5
          refine go_aload0 C (pc := 39) dX0_bestToProp_39 ?_
          refine go_get C (pc := 40) 12 (by decide) rfl rfl 0 (by decide) rfl rfl hi_X0_bestToProp_RX0 lk_X0_bestToProp_20 dX0_bestToProp_40 ?_
          refine go_getN C (pc := 43) 1 (by decide) rfl rfl 1 (by decide) rfl rfl hi_X0_bestToProp_RX5 (host := "ThornCores") (by decide +kernel) dX0_bestToProp_43 ?_
          refine go_iload4 C (pc := 46) dX0_bestToProp_46 ?_
          refine go_ciSN1 C (pc := 48) (host := "ThornCores") (c_X7_bit C.fl C.ok _ _ ) gX0_bestToProp_X7_bit_n41 rfl (by decide +kernel) lw_X0_bestToProp_s_X7_bit lw_X0_bestToProp_i_X7_bit yok_X7_bit ⟨rfl, rfl⟩ ⟨Nat.le_of_ble_eq_true rfl, Nat.le_of_ble_eq_true rfl⟩ (Nat.le_of_ble_eq_true rfl) ⟨Nat.zero_le _, Nat.zero_le _⟩ dX0_bestToProp_48 (fun r6 μ6 hc6 => ?_)
          obtain ⟨rfl, hm6⟩ := hc6
          replace hm6 := hm6.symm
          subst hm6
          refine go_ior C (pc := 51) dX0_bestToProp_51 ?_
          refine go_iload1 C (pc := 52) dX0_bestToProp_52 ?_
          refine go_ciV3 C (pc := 53) obj_12 (c_X0_left C.fl C.ok _ _ _ _ hc hT (sm_all hT.1) (by omega)) gX0_bestToProp_X0_left rfl rfl yok_X0_left ⟨rfl, rfl⟩ ⟨Nat.le_of_ble_eq_true rfl, Nat.le_of_ble_eq_true rfl⟩ (Nat.le_of_ble_eq_true rfl) ⟨Nat.zero_le _, Nat.zero_le _⟩ dX0_bestToProp_53 (fun r7 μ7 hc7 => ?_)
          obtain ⟨rfl, hm7⟩ := hc7
          replace hm7 := hm7.symm
          subst hm7
          refine go_ciSN1 C (pc := 56) (host := "ThornCores") (c_X7_bitsN C.fl C.ok _ _ (sm_core (sm_all hT.1))) gX0_bestToProp_X7_bits_n38 rfl (by decide +kernel) lw_X0_bestToProp_s_X7_bits lw_X0_bestToProp_i_X7_bits yok_X7_bits ⟨rfl, rfl⟩ ⟨Nat.le_of_ble_eq_true rfl, Nat.le_of_ble_eq_true rfl⟩ (Nat.le_of_ble_eq_true rfl) ⟨Nat.zero_le _, Nat.zero_le _⟩ dX0_bestToProp_56 (fun r8 μ8 hc8 => ?_)
          obtain ⟨rfl, hm8⟩ := hc8
          replace hm8 := hm8.symm
          subst hm8
          refine go_istore5 C (pc := 59) dX0_bestToProp_59 ?_
          refine go_iload5 C (pc := 61) dX0_bestToProp_61 ?_
          refine go_iload3 C (pc := 63) dX0_bestToProp_63 ?_
          refine go_icmp_le C (pc := 64) (tgt := 73) dX0_bestToProp_64 (by decide) (fun h64 => ?_) (fun h64 => ?_)
          · refine go_iinc4 C (pc := 73) (v := 1) dX0_bestToProp_73 (by decide) ?_
            refine go_goto C (pc := 76) (tgt := 7) dX0_bestToProp_76 (by decide) ?_
            exact go_drop5 (go_lv (by rw [nI_1, bestI, if_neg (by rw [bpos h28]; decide), if_neg (show ¬ (bestI (μ 3) (μ 1 1) n k i).2 < nI (propSize (μ 3) (μ 1 1) n k i) from Int32.not_lt.mpr h64)]) ih)
          · refine go_iload4 C (pc := 67) dX0_bestToProp_67 ?_
            refine go_istore2 C (pc := 69) dX0_bestToProp_69 ?_
            refine go_iload5 C (pc := 70) dX0_bestToProp_70 ?_
            refine go_istore3 C (pc := 72) dX0_bestToProp_72 ?_
            refine go_iinc4 C (pc := 73) (v := 1) dX0_bestToProp_73 (by decide) ?_
            refine go_goto C (pc := 76) (tgt := 7) dX0_bestToProp_76 (by decide) ?_
            exact go_drop5 (go_lv (by rw [nI_1, bestI, if_neg (by rw [bpos h28]; decide), if_pos (show (bestI (μ 3) (μ 1 1) n k i).2 < nI (propSize (μ 3) (μ 1 1) n k i) from Int32.not_le.mp h64)]; rfl) ih)
  refine go_iconst C (pc := 0) (v := 0) (by decide) dX0_bestToProp_0 ?_
  refine go_istore2 C (pc := 1) dX0_bestToProp_1 ?_
  refine go_iconst C (pc := 2) (v := -1) (by decide) dX0_bestToProp_2 ?_
  refine go_istore3 C (pc := 3) dX0_bestToProp_3 ?_
  refine go_iconst C (pc := 4) (v := 0) (by decide) dX0_bestToProp_4 ?_
  refine go_istore4 C (pc := 5) dX0_bestToProp_5 ?_
  exact go_lv (by rw [nI_0]; rfl) (key 0 (Nat.zero_le _))

/-- how many neighbors of p have a number of at least h -/
def nfN (th : Nat → Int32) (g : Nat → Nat) (p h : Nat) (i : Nat) : Nat := fb_ct (fun q => bt (th p) q && decide (h ≤ g q)) i
/-- the greatest h up to p's number for which at least h neighbors have at least h -/
def ghN (th : Nat → Int32) (g : Nat → Nat) (n p : Nat) : Nat := topK (fun h => decide (h ≤ nfN th g p h n)) (g p)
def numOK (F : Nat → Int32) (g : Nat → Nat) (n : Nat) : Prop := ∀ q, q < n → F q = nI (g q) ∧ g q ≤ 15
theorem nf_le (th : Nat → Int32) (g : Nat → Nat) (p h i : Nat) : nfN th g p h i ≤ i := fb_ct_le _ _
theorem yok_X0_neighborsFrom : yOK yX0_neighborsFrom 2 := by unfold yOK; decide +kernel
theorem hi_X0_neighborsFrom_RX0 : ∀ w ∈ wsX00, w ∈ wsX0_neighborsFrom := by decide +kernel
theorem lk_X0_neighborsFrom_20 : Cond.fieldLink RX0 20 "ThornCores$Cores" "thicket" "LThornCores$Thicket;" ∈ wsX0_neighborsFrom := by decide +kernel
theorem hi_X0_neighborsFrom_RX5 : ∀ w ∈ wsX50, w ∈ wsX0_neighborsFrom := by decide +kernel
theorem lk_X0_neighborsFrom_14 : Cond.fieldLink RX0 14 "ThornCores$Cores" "numbers" "LThornCores$Row;" ∈ wsX0_neighborsFrom := by decide +kernel
set_option maxRecDepth 20000 in
set_option maxHeartbeats 4000000 in
theorem c_X0_neighborsFrom {l : Launch} {D : va_G} {ad : Nat → Nat} {cI cL : ClassId} (hfl : l.flags = flags0) (hok : adOK ad) (μ : Mem) (j h : Nat) {n : Nat} (hc : μ 1 0 = nI n) (hT : TV n (μ 1 1) (μ 3)) (g : Nat → Nat) (hg : numOK (μ 14) g n) (hj : j < n) (hh : h ≤ 15) : CtI l D ad cI cL yX0_neighborsFrom wsX0_neighborsFrom (RM 2 43) [.ref (ad 12), .int (nI j), .int (nI h)] μ (fun (r : Int32) (μ' : Mem) => r = nI (nfN (μ 3) g j h n) ∧ μ' = μ) := by
  refine ct_i (cc := cX0_neighborsFrom) (maxL := 5) (own := RX0) .int hfl hok (by decide) rfl rfl rfl (Nat.le_of_ble_eq_true rfl) (fun p e s m below meth c C hr => ?_)
  refine go_lv (lv' := [some (.ref (ad 12)), some (.int (nI j)), some (.int (nI h)), none, none]) rfl ?_
  have hn := hT.1
  have key : ∀ i, i ≤ n → Go p l e (headSpec wsX0_neighborsFrom (RM 2 43)).room s m ([.ref (ad 12), .int (nI j), .int (nI h)] : List Value).toArray below meth c 0 0 (MQ below (va_Qi (fun (r : Int32) (μ' : Mem) => r = nI (nfN (μ 3) g j h n) ∧ μ' = μ) (fun μ' t => PreW D ad cI cL μ' t) (AW ad)) ([.ref (ad 12), .int (nI j), .int (nI h)] : List Value).toArray s 0 0 (AW ad)) (AW ad) D ad cI cL 5 5 [some (.ref (ad 12)), some (.int (nI j)), some (.int (nI h)), some (.int (nI (nfN (μ 3) g j h i))), some (.int (nI i))] [] (μ) := by
    refine dn_ind ?_ ?_
    · refine go_iload4 C (pc := 5) dX0_neighborsFrom_5 ?_
      refine go_aload0 C (pc := 7) dX0_neighborsFrom_7 ?_
      refine go_get C (pc := 8) 12 (by decide) rfl rfl 0 (by decide) rfl rfl hi_X0_neighborsFrom_RX0 lk_X0_neighborsFrom_20 dX0_neighborsFrom_8 ?_
      refine go_getN C (pc := 11) 1 (by decide) rfl rfl 0 (by decide) rfl rfl hi_X0_neighborsFrom_RX5 (host := "ThornCores") (by decide +kernel) dX0_neighborsFrom_11 ?_
      refine go_icmp_ge C (pc := 14) (tgt := 52) dX0_neighborsFrom_14 (by decide) (fun h14 => ?_) (fun h14 => ?_)
      · refine go_iload3 C (pc := 52) dX0_neighborsFrom_52 ?_
        exact go_iret C hr dX0_neighborsFrom_53 (⟨rfl, rfl⟩)
      · exact absurd (cnt_le hc (Nat.le_refl _) (by omega)) h14
    · intro i hi ih
      refine go_iload4 C (pc := 5) dX0_neighborsFrom_5 ?_
      refine go_aload0 C (pc := 7) dX0_neighborsFrom_7 ?_
      refine go_get C (pc := 8) 12 (by decide) rfl rfl 0 (by decide) rfl rfl hi_X0_neighborsFrom_RX0 lk_X0_neighborsFrom_20 dX0_neighborsFrom_8 ?_
      refine go_getN C (pc := 11) 1 (by decide) rfl rfl 0 (by decide) rfl rfl hi_X0_neighborsFrom_RX5 (host := "ThornCores") (by decide +kernel) dX0_neighborsFrom_11 ?_
      refine go_icmp_ge C (pc := 14) (tgt := 52) dX0_neighborsFrom_14 (by decide) (fun h14 => ?_) (fun h14 => ?_)
      · exact absurd h14 (cnt_nle hc hi (by omega))
      · refine go_aload0 C (pc := 17) dX0_neighborsFrom_17 ?_
        refine go_get C (pc := 18) 12 (by decide) rfl rfl 0 (by decide) rfl rfl hi_X0_neighborsFrom_RX0 lk_X0_neighborsFrom_20 dX0_neighborsFrom_18 ?_
        refine go_iload1 C (pc := 21) dX0_neighborsFrom_21 ?_
        refine go_iload4 C (pc := 22) dX0_neighborsFrom_22 ?_
        refine go_ciV2 C (pc := 24) obj_1 (c_X5_isBoundN C.fl C.ok _ _ _ hc hT (by omega) (by omega)) gX0_neighborsFrom_X5_isBound rfl rfl yok_X5_isBound ⟨rfl, rfl⟩ ⟨Nat.le_of_ble_eq_true rfl, Nat.le_of_ble_eq_true rfl⟩ (Nat.le_of_ble_eq_true rfl) ⟨Nat.zero_le _, Nat.zero_le _⟩ dX0_neighborsFrom_24 (fun r3 μ3 hc3 => ?_)
        obtain ⟨rfl, hm3⟩ := hc3
        replace hm3 := hm3.symm
        subst hm3
        refine go_if_eq C (pc := 27) (tgt := 46) dX0_neighborsFrom_27 (by decide) (fun h27 => ?_) (fun h27 => ?_)
        · refine go_iinc4 C (pc := 46) (v := 1) dX0_neighborsFrom_46 (by decide) ?_
          refine go_goto C (pc := 49) (tgt := 5) dX0_neighborsFrom_49 (by decide) ?_
          exact go_lv (by rw [nI_1]; exact congrArg (fun z => [_, _, _, some (Value.int (nI z)), _]) (show _ = fb_ct _ (i + 1) from by rw [fb_ct_succ, if_neg (by simp [bpos h27])]; rfl)) ih
        · refine go_aload0 C (pc := 30) dX0_neighborsFrom_30 ?_
          refine go_get C (pc := 31) 12 (by decide) rfl rfl 1 (by decide) rfl rfl hi_X0_neighborsFrom_RX0 lk_X0_neighborsFrom_14 dX0_neighborsFrom_31 ?_
          refine go_iload4 C (pc := 34) dX0_neighborsFrom_34 ?_
          refine go_ciV1 C (pc := 36) obj_13 (c_X3_atN C.fl C.ok _ 13 16 row_13 _  (by omega)) gX0_neighborsFrom_X3_at rfl rfl yok_X3_at ⟨rfl, rfl⟩ ⟨Nat.le_of_ble_eq_true rfl, Nat.le_of_ble_eq_true rfl⟩ (Nat.le_of_ble_eq_true rfl) ⟨Nat.zero_le _, Nat.zero_le _⟩ dX0_neighborsFrom_36 (fun r5 μ5 hc5 => ?_)
          obtain ⟨rfl, hm5⟩ := hc5
          replace hm5 := hm5.symm
          subst hm5
          refine go_iload2 C (pc := 39) dX0_neighborsFrom_39 ?_
          refine go_icmp_lt C (pc := 40) (tgt := 46) dX0_neighborsFrom_40 (by decide) (fun h40 => ?_) (fun h40 => ?_)
          · refine go_iinc4 C (pc := 46) (v := 1) dX0_neighborsFrom_46 (by decide) ?_
            refine go_goto C (pc := 49) (tgt := 5) dX0_neighborsFrom_49 (by decide) ?_
            exact go_lv (by rw [nI_1]; exact congrArg (fun z => [_, _, _, some (Value.int (nI z)), _]) (show _ = fb_ct _ (i + 1) from by rw [fb_ct_succ, if_neg (by have := nlt (by have := (hg i hi).2; omega) (by omega) ((hg i hi).1 ▸ h40); simp [bneg h27]; omega)]; rfl)) ih
          · refine go_iinc3 C (pc := 43) (v := 1) dX0_neighborsFrom_43 (by decide) ?_
            refine go_iinc4 C (pc := 46) (v := 1) dX0_neighborsFrom_46 (by decide) ?_
            refine go_goto C (pc := 49) (tgt := 5) dX0_neighborsFrom_49 (by decide) ?_
            exact go_lv (by rw [nI_1, nI_1]; exact congrArg (fun z => [_, _, _, some (Value.int (nI z)), _]) (show _ = fb_ct _ (i + 1) from by rw [fb_ct_succ, if_pos (by have := nle (by have := (hg i hi).2; omega) (by omega) ((hg i hi).1 ▸ h40); simp [bneg h27]; omega)]; rfl)) ih
  refine go_iconst C (pc := 0) (v := 0) (by decide) dX0_neighborsFrom_0 ?_
  refine go_istore3 C (pc := 1) dX0_neighborsFrom_1 ?_
  refine go_iconst C (pc := 2) (v := 0) (by decide) dX0_neighborsFrom_2 ?_
  refine go_istore4 C (pc := 3) dX0_neighborsFrom_3 ?_
  exact go_lv (by rw [nI_0]; rfl) (key 0 (Nat.zero_le _))

theorem yok_X0_greatestHeld : yOK yX0_greatestHeld 1 := by unfold yOK; decide +kernel
theorem hi_X0_greatestHeld_RX0 : ∀ w ∈ wsX00, w ∈ wsX0_greatestHeld := by decide +kernel
theorem lk_X0_greatestHeld_14 : Cond.fieldLink RX0 14 "ThornCores$Cores" "numbers" "LThornCores$Row;" ∈ wsX0_greatestHeld := by decide +kernel
set_option maxRecDepth 20000 in
set_option maxHeartbeats 4000000 in
theorem c_X0_greatestHeld {l : Launch} {D : va_G} {ad : Nat → Nat} {cI cL : ClassId} (hfl : l.flags = flags0) (hok : adOK ad) (μ : Mem) (j : Nat) {n : Nat} (hc : μ 1 0 = nI n) (hT : TV n (μ 1 1) (μ 3)) (g : Nat → Nat) (hg : numOK (μ 14) g n) (hj : j < n) : CtI l D ad cI cL yX0_greatestHeld wsX0_greatestHeld (RM 3 67) [.ref (ad 12), .int (nI j)] μ (fun (r : Int32) (μ' : Mem) => r = nI (ghN (μ 3) g n j) ∧ μ' = μ) := by
  refine ct_i (cc := cX0_greatestHeld) (maxL := 3) (own := RX0) .int hfl hok (by decide) rfl rfl rfl (Nat.le_of_ble_eq_true rfl) (fun p e s m below meth c C hr => ?_)
  refine go_lv (lv' := [some (.ref (ad 12)), some (.int (nI j)), none]) rfl ?_
  have hn := hT.1
  have h15 := (hg j hj).2
  have key : ∀ k, k ≤ g j → topK (fun h => decide (h ≤ nfN (μ 3) g j h n)) (g j) = topK (fun h => decide (h ≤ nfN (μ 3) g j h n)) k → Go p l e (headSpec wsX0_greatestHeld (RM 3 67)).room s m ([.ref (ad 12), .int (nI j)] : List Value).toArray below meth c 0 0 (MQ below (va_Qi (fun (r : Int32) (μ' : Mem) => r = nI (ghN (μ 3) g n j) ∧ μ' = μ) (fun μ' t => PreW D ad cI cL μ' t) (AW ad)) ([.ref (ad 12), .int (nI j)] : List Value).toArray s 0 0 (AW ad)) (AW ad) D ad cI cL 3 9 [some (.ref (ad 12)), some (.int (nI j)), some (.int (nI k))] [] (μ) := by
    intro k
    induction k with
    | zero =>
      intro _ htop
      refine go_iload2 C (pc := 9) dX0_greatestHeld_9 ?_
      refine go_if_le C (pc := 10) (tgt := 31) dX0_greatestHeld_10 (by decide) (fun h10 => ?_) (fun h10 => ?_)
      · refine go_iconst C (pc := 31) (v := 0) (by decide) dX0_greatestHeld_31 ?_
        exact go_iret C hr dX0_greatestHeld_32 (⟨by rw [ghN, htop, topK, nI_0], rfl⟩)
      · exact absurd zle h10
    | succ k ih =>
      intro hk htop
      have hnf := nf_le (μ 3) g j (k + 1) n
      refine go_iload2 C (pc := 9) dX0_greatestHeld_9 ?_
      refine go_if_le C (pc := 10) (tgt := 31) dX0_greatestHeld_10 (by decide) (fun h10 => ?_) (fun h10 => ?_)
      · exact (pos_le (by omega) (by omega) h10).elim
      · refine go_aload0 C (pc := 13) dX0_greatestHeld_13 ?_
        refine go_iload1 C (pc := 14) dX0_greatestHeld_14 ?_
        refine go_iload2 C (pc := 15) dX0_greatestHeld_15 ?_
        refine go_ciV2 C (pc := 16) obj_12 (c_X0_neighborsFrom C.fl C.ok _ _ _ hc hT g hg hj (by omega)) gX0_greatestHeld_X0_neighborsFrom rfl rfl yok_X0_neighborsFrom ⟨rfl, rfl⟩ ⟨Nat.le_of_ble_eq_true rfl, Nat.le_of_ble_eq_true rfl⟩ (Nat.le_of_ble_eq_true rfl) ⟨Nat.zero_le _, Nat.zero_le _⟩ dX0_greatestHeld_16 (fun r3 μ3 hc3 => ?_)
        obtain ⟨rfl, hm3⟩ := hc3
        replace hm3 := hm3.symm
        subst hm3
        refine go_iload2 C (pc := 19) dX0_greatestHeld_19 ?_
        refine go_icmp_lt C (pc := 20) (tgt := 25) dX0_greatestHeld_20 (by decide) (fun h20 => ?_) (fun h20 => ?_)
        · refine go_iinc2 C (pc := 25) (v := -1) dX0_greatestHeld_25 (by decide) ?_
          refine go_goto C (pc := 28) (tgt := 9) dX0_greatestHeld_28 (by decide) ?_
          exact go_lv (by rw [pk_m1]) (ih (by omega) (by rw [htop, topK, if_neg (by have := nlt (by omega) (by omega) h20; simp; omega)]))
        · refine go_iload2 C (pc := 23) dX0_greatestHeld_23 ?_
          exact go_iret C hr dX0_greatestHeld_24 (⟨by rw [ghN, htop, topK, if_pos (by have := nle (by omega) (by omega) h20; simp; omega)], rfl⟩)
  refine go_aload0 C (pc := 0) dX0_greatestHeld_0 ?_
  refine go_get C (pc := 1) 12 (by decide) rfl rfl 1 (by decide) rfl rfl hi_X0_greatestHeld_RX0 lk_X0_greatestHeld_14 dX0_greatestHeld_1 ?_
  refine go_iload1 C (pc := 4) dX0_greatestHeld_4 ?_
  refine go_ciV1 C (pc := 5) obj_13 (c_X3_atN C.fl C.ok _ 13 16 row_13 _  (by omega)) gX0_greatestHeld_X3_at rfl rfl yok_X3_at ⟨rfl, rfl⟩ ⟨Nat.le_of_ble_eq_true rfl, Nat.le_of_ble_eq_true rfl⟩ (Nat.le_of_ble_eq_true rfl) ⟨Nat.zero_le _, Nat.zero_le _⟩ dX0_greatestHeld_5 (fun r5 μ5 hc5 => ?_)
  obtain ⟨rfl, hm5⟩ := hc5
  replace hm5 := hm5.symm
  subst hm5
  refine go_istore2 C (pc := 8) dX0_greatestHeld_8 ?_
  exact go_lv (by rw [(hg j hj).1]) (key (g j) (Nat.le_refl _) rfl)

