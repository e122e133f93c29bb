/-! ===== ThornCores$Falling ===== -/
theorem updN_same (g : Nat → Nat) (i v : Nat) : updN g i v i = v := by simp [updN]
theorem updN_ne (g : Nat → Nat) {i j : Nat} (v : Nat) (h : j ≠ i) : updN g i v j = g j := by simp [updN, h]
theorem colS_2 {th : Nat → Int32} {n m : Nat} {pr : Int32} : (colS th pr n (m + 1)).2 = (colS th pr n m).2 ||| bitI (nI (ordN th pr n (n - 1 - m))) := rfl
theorem yok_X1_nextToFall : yOK yX1_nextToFall 1 := by unfold yOK; decide +kernel
theorem hi_X1_nextToFall_RX1 : ∀ w ∈ wsX10, w ∈ wsX1_nextToFall := by decide +kernel
theorem lk_X1_nextToFall_23 : Cond.fieldLink RX1 23 "ThornCores$Falling" "thicket" "LThornCores$Thicket;" ∈ wsX1_nextToFall := by decide +kernel
theorem hi_X1_nextToFall_RX5 : ∀ w ∈ wsX50, w ∈ wsX1_nextToFall := by decide +kernel
theorem lw_X1_nextToFall_s_X7_in : Cond.static yX7_in ∈ wsX1_nextToFall := by decide +kernel
theorem lw_X1_nextToFall_i_X7_in : Cond.initialized RX7 ∈ wsX1_nextToFall := by decide +kernel
theorem lw_X1_nextToFall_s_X7_bits : Cond.static yX7_bits ∈ wsX1_nextToFall := by decide +kernel
theorem lw_X1_nextToFall_i_X7_bits : Cond.initialized RX7 ∈ wsX1_nextToFall := by decide +kernel
set_option maxRecDepth 20000 in
set_option maxHeartbeats 4000000 in
theorem c_X1_nextToFall {l : Launch} {D : va_G} {ad : Nat → Nat} {cI cL : ClassId} (hfl : l.flags = flags0) (hok : adOK ad) (μ : Mem) (L : Int32) {n : Nat} (hc : μ 1 0 = nI n) (hT : TV n (μ 1 1) (μ 3)) (hL : sm L) : CtI l D ad cI cL yX1_nextToFall wsX1_nextToFall (RM 2 42) [.ref (ad 20), .int L] μ (fun (r : Int32) (μ' : Mem) => r = nI (nextN (μ 3) (μ 1 1) n L) ∧ μ' = μ) := by
  refine ct_i (cc := cX1_nextToFall) (maxL := 8) (own := RX1) .int hfl hok (by decide) rfl rfl rfl (Nat.le_of_ble_eq_true rfl) (fun p e s m below meth c C hr => ?_)
  refine go_lv (lv' := [some (.ref (ad 20)), some (.int L), none, none, none, none, none, none]) rfl ?_
  have hn := hT.1
  have key : ∀ i, i ≤ n → Go p l e (headSpec wsX1_nextToFall (RM 2 42)).room s m ([.ref (ad 20), .int L] : List Value).toArray below meth c 0 0 (MQ below (va_Qi (fun (r : Int32) (μ' : Mem) => r = nI (nextN (μ 3) (μ 1 1) n L) ∧ μ' = μ) (fun μ' t => PreW D ad cI cL μ' t) (AW ad)) ([.ref (ad 20), .int L] : List Value).toArray s 0 0 (AW ad)) (AW ad) D ad cI cL 8 32 [some (.ref (ad 20)), some (.int L), some (.int (frI (μ 1 1) L)), some (.int (wtI (μ 1 1) L)), some (.int (nI (nxtP (μ 3) (μ 1 1) L i).1)), some (.int (nI (nxtP (μ 3) (μ 1 1) L i).2)), some (.int (nI i)), none] [] (μ) := by
    refine dn_ind ?_ ?_
    · refine go_iload6 C (pc := 32) dX1_nextToFall_32 ?_
      refine go_aload0 C (pc := 34) dX1_nextToFall_34 ?_
      refine go_get C (pc := 35) 20 (by decide) rfl rfl 0 (by decide) rfl rfl hi_X1_nextToFall_RX1 lk_X1_nextToFall_23 dX1_nextToFall_35 ?_
      refine go_getN C (pc := 38) 1 (by decide) rfl rfl 0 (by decide) rfl rfl hi_X1_nextToFall_RX5 (host := "ThornCores") (by decide +kernel) dX1_nextToFall_38 ?_
      refine go_icmp_ge C (pc := 41) (tgt := 98) dX1_nextToFall_41 (by decide) (fun h41 => ?_) (fun h41 => ?_)
      · refine go_iload4 C (pc := 98) dX1_nextToFall_98 ?_
        exact go_iret C hr dX1_nextToFall_100 (⟨rfl, rfl⟩)
      · exact absurd (cnt_le hc (Nat.le_refl _) (by omega)) h41
    · intro i hi ih
      refine go_iload6 C (pc := 32) dX1_nextToFall_32 ?_
      refine go_aload0 C (pc := 34) dX1_nextToFall_34 ?_
      refine go_get C (pc := 35) 20 (by decide) rfl rfl 0 (by decide) rfl rfl hi_X1_nextToFall_RX1 lk_X1_nextToFall_23 dX1_nextToFall_35 ?_
      refine go_getN C (pc := 38) 1 (by decide) rfl rfl 0 (by decide) rfl rfl hi_X1_nextToFall_RX5 (host := "ThornCores") (by decide +kernel) dX1_nextToFall_38 ?_
      refine go_icmp_ge C (pc := 41) (tgt := 98) dX1_nextToFall_41 (by decide) (fun h41 => ?_) (fun h41 => ?_)
      · exact absurd h41 (cnt_nle hc hi (by omega))
      · refine go_iload2 C (pc := 44) dX1_nextToFall_44 ?_
        refine go_if_eq C (pc := 45) (tgt := 65) dX1_nextToFall_45 (by decide) (fun h45 => ?_) (fun h45 => ?_)
        · refine go_iconst C (pc := 65) (v := 0) (by decide) dX1_nextToFall_65 ?_
          refine go_istore7 C (pc := 66) dX1_nextToFall_66 ?_
          refine go_iload3 C (pc := 68) dX1_nextToFall_68 ?_
          refine go_iload6 C (pc := 69) dX1_nextToFall_69 ?_
          refine go_ciSN2 C (pc := 71) (host := "ThornCores") (c_X7_inN C.fl C.ok _ _ _ (by omega)) gX1_nextToFall_X7_in_n72 rfl (by decide +kernel) lw_X1_nextToFall_s_X7_in lw_X1_nextToFall_i_X7_in yok_X7_in ⟨rfl, rfl⟩ ⟨Nat.le_of_ble_eq_true rfl, Nat.le_of_ble_eq_true rfl⟩ (Nat.le_of_ble_eq_true rfl) ⟨Nat.zero_le _, Nat.zero_le _⟩ dX1_nextToFall_71 (fun r4 μ4 hc4 => ?_)
          obtain ⟨rfl, hm4⟩ := hc4
          replace hm4 := hm4.symm
          subst hm4
          refine go_if_eq C (pc := 74) (tgt := 92) dX1_nextToFall_74 (by decide) (fun h74 => ?_) (fun h74 => ?_)
          · refine go_iinc6 C (pc := 92) (v := 1) dX1_nextToFall_92 (by decide) ?_
            refine go_goto C (pc := 95) (tgt := 32) dX1_nextToFall_95 (by decide) ?_
            have hnb : nbN (μ 3) (μ 1 1) L i = 0 := by rw [nbN, if_pos h45]
            have hx := nxt_lt (L := L) hT i (by omega)
            exact go_drop7 (go_lv (by rw [nI_1, nxtP, if_neg (fun w => by rw [bpos h74] at w; exact absurd w.1 (by decide))]) ih)
          · refine go_iload7 C (pc := 77) dX1_nextToFall_77 ?_
            refine go_iload5 C (pc := 79) dX1_nextToFall_79 ?_
            refine go_icmp_ge C (pc := 81) (tgt := 92) dX1_nextToFall_81 (by decide) (fun h81 => ?_) (fun h81 => ?_)
            · refine go_iinc6 C (pc := 92) (v := 1) dX1_nextToFall_92 (by decide) ?_
              refine go_goto C (pc := 95) (tgt := 32) dX1_nextToFall_95 (by decide) ?_
              have hnb : nbN (μ 3) (μ 1 1) L i = 0 := by rw [nbN, if_pos h45]
              have hx := nxt_lt (L := L) hT i (by omega)
              rw [show (0 : Int32) = nI 0 from nI_0.symm] at h81
              exact go_drop7 (go_lv (by rw [nI_1, nxtP, if_neg (fun w => by have := (nI_leI (by omega) (by omega)).mp h81; omega)]) ih)
            · refine go_iload6 C (pc := 84) dX1_nextToFall_84 ?_
              refine go_istore4 C (pc := 86) dX1_nextToFall_86 ?_
              refine go_iload7 C (pc := 88) dX1_nextToFall_88 ?_
              refine go_istore5 C (pc := 90) dX1_nextToFall_90 ?_
              refine go_iinc6 C (pc := 92) (v := 1) dX1_nextToFall_92 (by decide) ?_
              refine go_goto C (pc := 95) (tgt := 32) dX1_nextToFall_95 (by decide) ?_
              have hnb : nbN (μ 3) (μ 1 1) L i = 0 := by rw [nbN, if_pos h45]
              have hx := nxt_lt (L := L) hT i (by omega)
              rw [show (0 : Int32) = nI 0 from nI_0.symm] at h81
              exact go_drop7 (go_lv (by rw [nI_1, nxtP, if_pos ⟨bneg h74, by rw [hnb]; exact Nat.not_le.mp (fun q => h81 (nI_le q (by omega)))⟩, hnb]; rfl) ih)
        · refine go_aload0 C (pc := 48) dX1_nextToFall_48 ?_
          refine go_get C (pc := 49) 20 (by decide) rfl rfl 0 (by decide) rfl rfl hi_X1_nextToFall_RX1 lk_X1_nextToFall_23 dX1_nextToFall_49 ?_
          refine go_iload6 C (pc := 52) dX1_nextToFall_52 ?_
          refine go_ciV1 C (pc := 54) obj_1 (c_X5_aroundN C.fl C.ok _ _ (by omega)) gX1_nextToFall_X5_around rfl rfl yok_X5_around ⟨rfl, rfl⟩ ⟨Nat.le_of_ble_eq_true rfl, Nat.le_of_ble_eq_true rfl⟩ (Nat.le_of_ble_eq_true rfl) ⟨Nat.zero_le _, Nat.zero_le _⟩ dX1_nextToFall_54 (fun r7 μ7 hc7 => ?_)
          obtain ⟨rfl, hm7⟩ := hc7
          replace hm7 := hm7.symm
          subst hm7
          refine go_top (y := μ 3 i) rfl ?_
          refine go_iload1 C (pc := 57) dX1_nextToFall_57 ?_
          refine go_iand C (pc := 58) dX1_nextToFall_58 ?_
          refine go_ciSN1 C (pc := 59) (host := "ThornCores") (c_X7_bitsN C.fl C.ok _ _ (sm_and2 _ hL)) gX1_nextToFall_X7_bits_n69 rfl (by decide +kernel) lw_X1_nextToFall_s_X7_bits lw_X1_nextToFall_i_X7_bits yok_X7_bits ⟨rfl, rfl⟩ ⟨Nat.le_of_ble_eq_true rfl, Nat.le_of_ble_eq_true rfl⟩ (Nat.le_of_ble_eq_true rfl) ⟨Nat.zero_le _, Nat.zero_le _⟩ dX1_nextToFall_59 (fun r8 μ8 hc8 => ?_)
          obtain ⟨rfl, hm8⟩ := hc8
          replace hm8 := hm8.symm
          subst hm8
          refine go_goto C (pc := 62) (tgt := 66) dX1_nextToFall_62 (by decide) ?_
          refine go_istore7 C (pc := 66) dX1_nextToFall_66 ?_
          refine go_iload3 C (pc := 68) dX1_nextToFall_68 ?_
          refine go_iload6 C (pc := 69) dX1_nextToFall_69 ?_
          refine go_ciSN2 C (pc := 71) (host := "ThornCores") (c_X7_inN C.fl C.ok _ _ _ (by omega)) gX1_nextToFall_X7_in_n72 rfl (by decide +kernel) lw_X1_nextToFall_s_X7_in lw_X1_nextToFall_i_X7_in yok_X7_in ⟨rfl, rfl⟩ ⟨Nat.le_of_ble_eq_true rfl, Nat.le_of_ble_eq_true rfl⟩ (Nat.le_of_ble_eq_true rfl) ⟨Nat.zero_le _, Nat.zero_le _⟩ dX1_nextToFall_71 (fun r9 μ9 hc9 => ?_)
          obtain ⟨rfl, hm9⟩ := hc9
          replace hm9 := hm9.symm
          subst hm9
          refine go_if_eq C (pc := 74) (tgt := 92) dX1_nextToFall_74 (by decide) (fun h74 => ?_) (fun h74 => ?_)
          · refine go_iinc6 C (pc := 92) (v := 1) dX1_nextToFall_92 (by decide) ?_
            refine go_goto C (pc := 95) (tgt := 32) dX1_nextToFall_95 (by decide) ?_
            have hnb : nbN (μ 3) (μ 1 1) L i = ct (μ 3 i &&& L) := by rw [nbN, if_neg h45]
            have hx := nxt_lt (L := L) hT i (by omega)
            have hle := ct_le (μ 3 i &&& L)
            exact go_drop7 (go_lv (by rw [nI_1, nxtP, if_neg (fun w => by rw [bpos h74] at w; exact absurd w.1 (by decide))]) ih)
          · refine go_iload7 C (pc := 77) dX1_nextToFall_77 ?_
            refine go_iload5 C (pc := 79) dX1_nextToFall_79 ?_
            refine go_icmp_ge C (pc := 81) (tgt := 92) dX1_nextToFall_81 (by decide) (fun h81 => ?_) (fun h81 => ?_)
            · refine go_iinc6 C (pc := 92) (v := 1) dX1_nextToFall_92 (by decide) ?_
              refine go_goto C (pc := 95) (tgt := 32) dX1_nextToFall_95 (by decide) ?_
              have hnb : nbN (μ 3) (μ 1 1) L i = ct (μ 3 i &&& L) := by rw [nbN, if_neg h45]
              have hx := nxt_lt (L := L) hT i (by omega)
              have hle := ct_le (μ 3 i &&& L)
              exact go_drop7 (go_lv (by rw [nI_1, nxtP, if_neg (fun w => by have := (nI_leI (by omega) (by omega)).mp h81; omega)]) ih)
            · refine go_iload6 C (pc := 84) dX1_nextToFall_84 ?_
              refine go_istore4 C (pc := 86) dX1_nextToFall_86 ?_
              refine go_iload7 C (pc := 88) dX1_nextToFall_88 ?_
              refine go_istore5 C (pc := 90) dX1_nextToFall_90 ?_
              refine go_iinc6 C (pc := 92) (v := 1) dX1_nextToFall_92 (by decide) ?_
              refine go_goto C (pc := 95) (tgt := 32) dX1_nextToFall_95 (by decide) ?_
              have hnb : nbN (μ 3) (μ 1 1) L i = ct (μ 3 i &&& L) := by rw [nbN, if_neg h45]
              have hx := nxt_lt (L := L) hT i (by omega)
              have hle := ct_le (μ 3 i &&& L)
              exact go_drop7 (go_lv (by rw [nI_1, nxtP, if_pos ⟨bneg h74, by rw [hnb]; exact Nat.not_le.mp (fun q => h81 (nI_le q (by omega)))⟩, hnb]) ih)
  refine go_iload1 C (pc := 0) dX1_nextToFall_0 ?_
  refine go_aload0 C (pc := 1) dX1_nextToFall_1 ?_
  refine go_get C (pc := 2) 20 (by decide) rfl rfl 0 (by decide) rfl rfl hi_X1_nextToFall_RX1 lk_X1_nextToFall_23 dX1_nextToFall_2 ?_
  refine go_getN C (pc := 5) 1 (by decide) rfl rfl 1 (by decide) rfl rfl hi_X1_nextToFall_RX5 (host := "ThornCores") (by decide +kernel) dX1_nextToFall_5 ?_
  refine go_iconst C (pc := 8) (v := -1) (by decide) dX1_nextToFall_8 ?_
  refine go_ixor C (pc := 9) dX1_nextToFall_9 ?_
  refine go_iand C (pc := 10) dX1_nextToFall_10 ?_
  refine go_istore2 C (pc := 11) dX1_nextToFall_11 ?_
  refine go_iload2 C (pc := 12) dX1_nextToFall_12 ?_
  refine go_if_eq C (pc := 13) (tgt := 20) dX1_nextToFall_13 (by decide) (fun h13 => ?_) (fun h13 => ?_)
  · refine go_iload1 C (pc := 20) dX1_nextToFall_20 ?_
    refine go_istore3 C (pc := 21) dX1_nextToFall_21 ?_
    refine go_iconst C (pc := 22) (v := 0) (by decide) dX1_nextToFall_22 ?_
    refine go_istore4 C (pc := 23) dX1_nextToFall_23 ?_
    refine go_bipush C (pc := 25) (v := 16) (by decide) dX1_nextToFall_25 ?_
    refine go_istore5 C (pc := 27) dX1_nextToFall_27 ?_
    refine go_iconst C (pc := 29) (v := 0) (by decide) dX1_nextToFall_29 ?_
    refine go_istore6 C (pc := 30) dX1_nextToFall_30 ?_
    exact go_lv (by rw [nI_0, wtI, if_pos (by exact h13)]; rfl) (key 0 (Nat.zero_le _))
  · refine go_iload2 C (pc := 16) dX1_nextToFall_16 ?_
    refine go_goto C (pc := 17) (tgt := 21) dX1_nextToFall_17 (by decide) ?_
    refine go_istore3 C (pc := 21) dX1_nextToFall_21 ?_
    refine go_iconst C (pc := 22) (v := 0) (by decide) dX1_nextToFall_22 ?_
    refine go_istore4 C (pc := 23) dX1_nextToFall_23 ?_
    refine go_bipush C (pc := 25) (v := 16) (by decide) dX1_nextToFall_25 ?_
    refine go_istore5 C (pc := 27) dX1_nextToFall_27 ?_
    refine go_iconst C (pc := 29) (v := 0) (by decide) dX1_nextToFall_29 ?_
    refine go_istore6 C (pc := 30) dX1_nextToFall_30 ?_
    exact go_lv (by rw [nI_0, wtI, if_neg (by exact h13)]; rfl) (key 0 (Nat.zero_le _))

theorem yok_X1_findOrder : yOK yX1_findOrder 0 := by unfold yOK; decide +kernel
theorem hi_X1_findOrder_RX1 : ∀ w ∈ wsX10, w ∈ wsX1_findOrder := by decide +kernel
theorem lk_X1_findOrder_23 : Cond.fieldLink RX1 23 "ThornCores$Falling" "thicket" "LThornCores$Thicket;" ∈ wsX1_findOrder := by decide +kernel
theorem hi_X1_findOrder_RX5 : ∀ w ∈ wsX50, w ∈ wsX1_findOrder := by decide +kernel
theorem lk_X1_findOrder_14 : Cond.fieldLink RX1 14 "ThornCores$Falling" "order" "LThornCores$Row;" ∈ wsX1_findOrder := by decide +kernel
theorem lw_X1_findOrder_s_X7_bit : Cond.static yX7_bit ∈ wsX1_findOrder := by decide +kernel
theorem lw_X1_findOrder_i_X7_bit : Cond.initialized RX7 ∈ wsX1_findOrder := by decide +kernel
set_option maxRecDepth 20000 in
set_option maxHeartbeats 4000000 in
theorem c_X1_findOrder {l : Launch} {D : va_G} {ad : Nat → Nat} {cI cL : ClassId} (hfl : l.flags = flags0) (hok : adOK ad) (μ : Mem) {n : Nat} (hc : μ 1 0 = nI n) (hT : TV n (μ 1 1) (μ 3)) : CtV l D ad cI cL yX1_findOrder wsX1_findOrder (RM 3 69) [.ref (ad 20)] μ (fun (μ' : Mem) => ∃ F, μ' = mset μ 22 F ∧ ∀ i, i < n → F i = nI (ordN (μ 3) (μ 1 1) n i)) := by
  refine ct_v (cc := cX1_findOrder) (maxL := 4) (own := RX1) hfl hok (by decide) rfl rfl rfl (Nat.le_of_ble_eq_true rfl) (fun p e s m below meth c C hr => ?_)
  refine go_lv (lv' := [some (.ref (ad 20)), none, none, none]) rfl ?_
  have hn := hT.1
  have key : ∀ i, i ≤ n → ∀ F, (∀ x, x < i → F x = nI (ordN (μ 3) (μ 1 1) n x)) → Go p l e (headSpec wsX1_findOrder (RM 3 69)).room s m ([.ref (ad 20)] : List Value).toArray below meth c 0 0 (MQ below (va_Qv (fun (μ' : Mem) => ∃ F, μ' = mset μ 22 F ∧ ∀ i, i < n → F i = nI (ordN (μ 3) (μ 1 1) n i)) (fun μ' t => PreW D ad cI cL μ' t) (AW ad)) ([.ref (ad 20)] : List Value).toArray s 0 0 (AW ad)) (AW ad) D ad cI cL 4 10 [some (.ref (ad 20)), some (.int (lefS (μ 3) (μ 1 1) n i)), some (.int (nI i)), none] [] (mset μ 22 F) := by
    refine dn_ind ?_ ?_
    · intro F hF
      refine go_iload2 C (pc := 10) dX1_findOrder_10 ?_
      refine go_aload0 C (pc := 11) dX1_findOrder_11 ?_
      refine go_get C (pc := 12) 20 (by decide) rfl rfl 0 (by decide) rfl rfl hi_X1_findOrder_RX1 lk_X1_findOrder_23 dX1_findOrder_12 ?_
      refine go_getN C (pc := 15) 1 (by decide) rfl rfl 0 (by decide) rfl rfl hi_X1_findOrder_RX5 (host := "ThornCores") (by decide +kernel) dX1_findOrder_15 ?_
      refine go_icmp_ge C (pc := 18) (tgt := 51) dX1_findOrder_18 (by decide) (fun h18 => ?_) (fun h18 => ?_)
      · exact go_vret C hr dX1_findOrder_51 (⟨F, rfl, hF⟩)
      · exact absurd (cnt_le hc (Nat.le_refl _) (by omega)) h18
    · intro i hi ih F hF
      refine go_iload2 C (pc := 10) dX1_findOrder_10 ?_
      refine go_aload0 C (pc := 11) dX1_findOrder_11 ?_
      refine go_get C (pc := 12) 20 (by decide) rfl rfl 0 (by decide) rfl rfl hi_X1_findOrder_RX1 lk_X1_findOrder_23 dX1_findOrder_12 ?_
      refine go_getN C (pc := 15) 1 (by decide) rfl rfl 0 (by decide) rfl rfl hi_X1_findOrder_RX5 (host := "ThornCores") (by decide +kernel) dX1_findOrder_15 ?_
      refine go_icmp_ge C (pc := 18) (tgt := 51) dX1_findOrder_18 (by decide) (fun h18 => ?_) (fun h18 => ?_)
      · exact absurd h18 (cnt_nle hc hi (by omega))
      · refine go_aload0 C (pc := 21) dX1_findOrder_21 ?_
        refine go_iload1 C (pc := 22) dX1_findOrder_22 ?_
        refine go_ciV1 C (pc := 23) obj_20 (c_X1_nextToFall C.fl C.ok (mset μ 22 F) _ hc hT (lef_sm hn i)) gX1_findOrder_X1_nextToFall rfl rfl yok_X1_nextToFall ⟨rfl, rfl⟩ ⟨Nat.le_of_ble_eq_true rfl, Nat.le_of_ble_eq_true rfl⟩ (Nat.le_of_ble_eq_true rfl) ⟨Nat.zero_le _, Nat.zero_le _⟩ dX1_findOrder_23 (fun r3 μ3 hc3 => ?_)
        obtain ⟨rfl, hm3⟩ := hc3
        replace hm3 := hm3.symm
        subst hm3
        refine go_top (y := nI (ordN (μ 3) (μ 1 1) n i)) rfl ?_
        refine go_istore3 C (pc := 26) dX1_findOrder_26 ?_
        refine go_aload0 C (pc := 27) dX1_findOrder_27 ?_
        refine go_get C (pc := 28) 20 (by decide) rfl rfl 1 (by decide) rfl rfl hi_X1_findOrder_RX1 lk_X1_findOrder_14 dX1_findOrder_28 ?_
        refine go_iload2 C (pc := 31) dX1_findOrder_31 ?_
        refine go_iload3 C (pc := 32) dX1_findOrder_32 ?_
        refine go_cvV2 C (pc := 33) obj_21 (c_X3_putN C.fl C.ok _ 21 16 row_21 _ _  (by omega)) gX1_findOrder_X3_put rfl rfl yok_X3_put ⟨rfl, rfl⟩ ⟨Nat.le_of_ble_eq_true rfl, Nat.le_of_ble_eq_true rfl⟩ (Nat.le_of_ble_eq_true rfl) ⟨Nat.zero_le _, Nat.zero_le _⟩ dX1_findOrder_33 (fun μ4 hc4 => ?_)
        replace hc4 := hc4.symm
        subst hc4
        refine go_iload1 C (pc := 36) dX1_findOrder_36 ?_
        refine go_iload3 C (pc := 37) dX1_findOrder_37 ?_
        refine go_ciSN1 C (pc := 38) (host := "ThornCores") (c_X7_bit C.fl C.ok _ _ ) gX1_findOrder_X7_bit_n60 rfl (by decide +kernel) lw_X1_findOrder_s_X7_bit lw_X1_findOrder_i_X7_bit yok_X7_bit ⟨rfl, rfl⟩ ⟨Nat.le_of_ble_eq_true rfl, Nat.le_of_ble_eq_true rfl⟩ (Nat.le_of_ble_eq_true rfl) ⟨Nat.zero_le _, Nat.zero_le _⟩ dX1_findOrder_38 (fun r5 μ5 hc5 => ?_)
        obtain ⟨rfl, hm5⟩ := hc5
        replace hm5 := hm5.symm
        subst hm5
        refine go_iconst C (pc := 41) (v := -1) (by decide) dX1_findOrder_41 ?_
        refine go_ixor C (pc := 42) dX1_findOrder_42 ?_
        refine go_iand C (pc := 43) dX1_findOrder_43 ?_
        refine go_istore1 C (pc := 44) dX1_findOrder_44 ?_
        refine go_iinc2 C (pc := 45) (v := 1) dX1_findOrder_45 (by decide) ?_
        refine go_goto C (pc := 48) (tgt := 10) dX1_findOrder_48 (by decide) ?_
        exact go_drop3 (go_lv (by rw [nI_1]; rfl) (go_mem (mset_mset μ 22 F _) (ih _ (fun x hx => by by_cases e : x = i <;> first | (subst e; exact pk_us) | (exact (pk_un e).trans (hF x (by omega)))))))
  refine go_aload0 C (pc := 0) dX1_findOrder_0 ?_
  refine go_get C (pc := 1) 20 (by decide) rfl rfl 0 (by decide) rfl rfl hi_X1_findOrder_RX1 lk_X1_findOrder_23 dX1_findOrder_1 ?_
  refine go_ciV0 C (pc := 4) obj_1 (c_X5_plantsN C.fl C.ok _ hc) gX1_findOrder_X5_plants rfl rfl yok_X5_plants ⟨rfl, rfl⟩ ⟨Nat.le_of_ble_eq_true rfl, Nat.le_of_ble_eq_true rfl⟩ (Nat.le_of_ble_eq_true rfl) ⟨Nat.zero_le _, Nat.zero_le _⟩ dX1_findOrder_4 (fun r6 μ6 hc6 => ?_)
  obtain ⟨rfl, hm6⟩ := hc6
  replace hm6 := hm6.symm
  subst hm6
  refine go_istore1 C (pc := 7) dX1_findOrder_7 ?_
  refine go_iconst C (pc := 8) (v := 0) (by decide) dX1_findOrder_8 ?_
  refine go_istore2 C (pc := 9) dX1_findOrder_9 ?_
  exact go_lv (by rw [nI_0]; rfl) (go_mem (mset_id μ 22).symm (key 0 (Nat.zero_le _) _ (fun x h => absurd h (Nat.not_lt_zero _))))

theorem yok_X1_place : yOK yX1_place 1 := by unfold yOK; decide +kernel
theorem hi_X1_place_RX1 : ∀ w ∈ wsX10, w ∈ wsX1_place := by decide +kernel
theorem lk_X1_place_23 : Cond.fieldLink RX1 23 "ThornCores$Falling" "thicket" "LThornCores$Thicket;" ∈ wsX1_place := by decide +kernel
theorem hi_X1_place_RX5 : ∀ w ∈ wsX50, w ∈ wsX1_place := by decide +kernel
theorem lk_X1_place_14 : Cond.fieldLink RX1 14 "ThornCores$Falling" "order" "LThornCores$Row;" ∈ wsX1_place := by decide +kernel
set_option maxRecDepth 20000 in
set_option maxHeartbeats 4000000 in
theorem c_X1_place {l : Launch} {D : va_G} {ad : Nat → Nat} {cI cL : ClassId} (hfl : l.flags = flags0) (hok : adOK ad) (μ : Mem) (j : Nat) {n : Nat} (hc : μ 1 0 = nI n) (hT : TV n (μ 1 1) (μ 3)) (hj : j < n) : CtI l D ad cI cL yX1_place wsX1_place (RM 4 92) [.ref (ad 20), .int (nI j)] μ (fun (r : Int32) (μ' : Mem) => (∃ x, r = nI x ∧ x < n ∧ ordN (μ 3) (μ 1 1) n x = j ∧ ∀ y, y < x → ordN (μ 3) (μ 1 1) n y ≠ j) ∧ ∃ F, μ' = mset μ 22 F) := by
  refine ct_i (cc := cX1_place) (maxL := 3) (own := RX1) .int hfl hok (by decide) rfl rfl rfl (Nat.le_of_ble_eq_true rfl) (fun p e s m below meth c C hr => ?_)
  refine go_lv (lv' := [some (.ref (ad 20)), some (.int (nI j)), none]) rfl ?_
  have hn := hT.1
  have key : ∀ i, i ≤ n → ∀ F, (∀ x, x < n → F x = nI (ordN (μ 3) (μ 1 1) n x)) → (∀ y, y < i → ordN (μ 3) (μ 1 1) n y ≠ j) → Go p l e (headSpec wsX1_place (RM 4 92)).room s m ([.ref (ad 20), .int (nI j)] : List Value).toArray below meth c 0 0 (MQ below (va_Qi (fun (r : Int32) (μ' : Mem) => (∃ x, r = nI x ∧ x < n ∧ ordN (μ 3) (μ 1 1) n x = j ∧ ∀ y, y < x → ordN (μ 3) (μ 1 1) n y ≠ j) ∧ ∃ F, μ' = mset μ 22 F) (fun μ' t => PreW D ad cI cL μ' t) (AW ad)) ([.ref (ad 20), .int (nI j)] : List Value).toArray s 0 0 (AW ad)) (AW ad) D ad cI cL 3 6 [some (.ref (ad 20)), some (.int (nI j)), some (.int (nI i))] [] (mset μ 22 F) := by
    refine dn_ind ?_ ?_
    · intro F _ h
      obtain ⟨x, h1, h2⟩ := ord_onto hT hj
      exact absurd h2 (h x h1)
    · intro i hi ih F hF hno
      have ho := (ord_in hT hi).1
      refine go_iload2 C (pc := 6) dX1_place_6 ?_
      refine go_aload0 C (pc := 7) dX1_place_7 ?_
      refine go_get C (pc := 8) 20 (by decide) rfl rfl 0 (by decide) rfl rfl hi_X1_place_RX1 lk_X1_place_23 dX1_place_8 ?_
      refine go_getN C (pc := 11) 1 (by decide) rfl rfl 0 (by decide) rfl rfl hi_X1_place_RX5 (host := "ThornCores") (by decide +kernel) dX1_place_11 ?_
      refine go_icmp_ge C (pc := 14) (tgt := 37) dX1_place_14 (by decide) (fun h14 => ?_) (fun h14 => ?_)
      · exact absurd h14 (cnt_nle hc hi (by omega))
      · refine go_aload0 C (pc := 17) dX1_place_17 ?_
        refine go_get C (pc := 18) 20 (by decide) rfl rfl 1 (by decide) rfl rfl hi_X1_place_RX1 lk_X1_place_14 dX1_place_18 ?_
        refine go_iload2 C (pc := 21) dX1_place_21 ?_
        refine go_ciV1 C (pc := 22) obj_21 (c_X3_atN C.fl C.ok _ 21 16 row_21 _  (by omega)) gX1_place_X3_at rfl rfl yok_X3_at ⟨rfl, rfl⟩ ⟨Nat.le_of_ble_eq_true rfl, Nat.le_of_ble_eq_true rfl⟩ (Nat.le_of_ble_eq_true rfl) ⟨Nat.zero_le _, Nat.zero_le _⟩ dX1_place_22 (fun r2 μ2 hc2 => ?_)
        obtain ⟨rfl, hm2⟩ := hc2
        replace hm2 := hm2.symm
        subst hm2
        refine go_iload1 C (pc := 25) dX1_place_25 ?_
        refine go_icmp_ne C (pc := 26) (tgt := 31) dX1_place_26 (by decide) (fun h26 => ?_) (fun h26 => ?_)
        · refine go_iinc2 C (pc := 31) (v := 1) dX1_place_31 (by decide) ?_
          refine go_goto C (pc := 34) (tgt := 6) dX1_place_34 (by decide) ?_
          exact go_lv (by rw [nI_1]) (ih F hF (fun y hy => by by_cases e : y = i <;> first | (subst e; exact fun q => h26 (by show F y = _; rw [hF y hi, q])) | (exact hno y (by omega))))
        · refine go_iload2 C (pc := 29) dX1_place_29 ?_
          exact go_iret C hr dX1_place_30 (⟨⟨i, rfl, hi, nI_inj3 (by omega) (by omega) ((hF i hi).symm.trans h26), hno⟩, F, rfl⟩)
  refine go_aload0 C (pc := 0) dX1_place_0 ?_
  refine go_cvV0 C (pc := 1) obj_20 (c_X1_findOrder C.fl C.ok _ hc hT) gX1_place_X1_findOrder rfl rfl yok_X1_findOrder ⟨rfl, rfl⟩ ⟨Nat.le_of_ble_eq_true rfl, Nat.le_of_ble_eq_true rfl⟩ (Nat.le_of_ble_eq_true rfl) ⟨Nat.zero_le _, Nat.zero_le _⟩ dX1_place_1 (fun μ4 hc4 => ?_)
  obtain ⟨F, rfl, hF⟩ := hc4
  refine go_iconst C (pc := 4) (v := 0) (by decide) dX1_place_4 ?_
  refine go_istore2 C (pc := 5) dX1_place_5 ?_
  exact go_lv (by rw [nI_0]) (key 0 (Nat.zero_le _) F hF (fun y h => absurd h (Nat.not_lt_zero _)))

theorem yok_X1_leastColor : yOK yX1_leastColor 1 := by unfold yOK; decide +kernel
theorem lw_X1_leastColor_s_X7_in : Cond.static yX7_in ∈ wsX1_leastColor := by decide +kernel
theorem lw_X1_leastColor_i_X7_in : Cond.initialized RX7 ∈ wsX1_leastColor := by decide +kernel
theorem hi_X1_leastColor_RX1 : ∀ w ∈ wsX10, w ∈ wsX1_leastColor := by decide +kernel
theorem lk_X1_leastColor_23 : Cond.fieldLink RX1 23 "ThornCores$Falling" "thicket" "LThornCores$Thicket;" ∈ wsX1_leastColor := by decide +kernel
theorem hi_X1_leastColor_RX5 : ∀ w ∈ wsX50, w ∈ wsX1_leastColor := by decide +kernel
theorem lk_X1_leastColor_20 : Cond.fieldLink RX1 20 "ThornCores$Falling" "given" "LThornCores$Row;" ∈ wsX1_leastColor := by decide +kernel
theorem lw_X1_leastColor_s_X7_bit : Cond.static yX7_bit ∈ wsX1_leastColor := by decide +kernel
theorem lw_X1_leastColor_i_X7_bit : Cond.initialized RX7 ∈ wsX1_leastColor := by decide +kernel
set_option maxRecDepth 20000 in
set_option maxHeartbeats 4000000 in
theorem c_X1_leastColor {l : Launch} {D : va_G} {ad : Nat → Nat} {cI cL : ClassId} (hfl : l.flags = flags0) (hok : adOK ad) (μ : Mem) (S : Int32) (g : Nat → Nat) {n : Nat} (hc : μ 1 0 = nI n) (hT : TV n (μ 1 1) (μ 3)) (hg : ∀ q, bt S q = true → μ 24 q = nI (g q) ∧ g q ≤ 15) : CtI l D ad cI cL yX1_leastColor wsX1_leastColor (RM 1 21) [.ref (ad 20), .int S] μ (fun (r : Int32) (μ' : Mem) => r = nI (lcN (tkI g S n)) ∧ μ' = μ) := by
  refine ct_i (cc := cX1_leastColor) (maxL := 4) (own := RX1) .int hfl hok (by decide) rfl rfl rfl (Nat.le_of_ble_eq_true rfl) (fun p e s m below meth c C hr => ?_)
  refine go_lv (lv' := [some (.ref (ad 20)), some (.int S), none, none]) rfl ?_
  have hn := hT.1
  have key2 : ∀ z, z ≤ 16 → lcG (tkI g S n) 16 0 = lcG (tkI g S n) (16 - z) z → Go p l e (headSpec wsX1_leastColor (RM 1 21)).room s m ([.ref (ad 20), .int S] : List Value).toArray below meth c 0 0 (MQ below (va_Qi (fun (r : Int32) (μ' : Mem) => r = nI (lcN (tkI g S n)) ∧ μ' = μ) (fun μ' t => PreW D ad cI cL μ' t) (AW ad)) ([.ref (ad 20), .int S] : List Value).toArray s 0 0 (AW ad)) (AW ad) D ad cI cL 4 45 [some (.ref (ad 20)), some (.int S), some (.int (tkI g S n)), some (.int (nI z))] [] (μ) := by
    refine dn_ind ?_ ?_
    · intro htop
      refine go_iload3 C (pc := 45) dX1_leastColor_45 ?_
      refine go_bipush C (pc := 46) (v := 16) (by decide) dX1_leastColor_46 ?_
      refine go_icmp_ge C (pc := 48) (tgt := 67) dX1_leastColor_48 (by decide) (fun h48 => ?_) (fun h48 => ?_)
      · refine go_iconst C (pc := 67) (v := 0) (by decide) dX1_leastColor_67 ?_
        exact go_iret C hr dX1_leastColor_68 (⟨by rw [lcN, htop]; rfl, rfl⟩)
      · exact absurd (cnt_le nI16 (Nat.le_refl _) (by omega)) h48
    · intro z hci ih htop
      rw [show lcG (tkI g S n) (16 - z) z = if bt (tkI g S n) z = true then lcG (tkI g S n) (16 - (z + 1)) (z + 1) else z from by rw [show 16 - z = (16 - (z + 1)) + 1 by omega]; rfl] at htop
      refine go_iload3 C (pc := 45) dX1_leastColor_45 ?_
      refine go_bipush C (pc := 46) (v := 16) (by decide) dX1_leastColor_46 ?_
      refine go_icmp_ge C (pc := 48) (tgt := 67) dX1_leastColor_48 (by decide) (fun h48 => ?_) (fun h48 => ?_)
      · exact absurd h48 (cnt_nle nI16 hci (by omega))
      · refine go_iload2 C (pc := 51) dX1_leastColor_51 ?_
        refine go_iload3 C (pc := 52) dX1_leastColor_52 ?_
        refine go_ciSN2 C (pc := 53) (host := "ThornCores") (c_X7_inN C.fl C.ok _ _ _ (by omega)) gX1_leastColor_X7_in_n72 rfl (by decide +kernel) lw_X1_leastColor_s_X7_in lw_X1_leastColor_i_X7_in yok_X7_in ⟨rfl, rfl⟩ ⟨Nat.le_of_ble_eq_true rfl, Nat.le_of_ble_eq_true rfl⟩ (Nat.le_of_ble_eq_true rfl) ⟨Nat.zero_le _, Nat.zero_le _⟩ dX1_leastColor_53 (fun r3 μ3 hc3 => ?_)
        obtain ⟨rfl, hm3⟩ := hc3
        replace hm3 := hm3.symm
        subst hm3
        refine go_if_ne C (pc := 56) (tgt := 61) dX1_leastColor_56 (by decide) (fun h56 => ?_) (fun h56 => ?_)
        · refine go_iinc3 C (pc := 61) (v := 1) dX1_leastColor_61 (by decide) ?_
          refine go_goto C (pc := 64) (tgt := 45) dX1_leastColor_64 (by decide) ?_
          exact go_lv (by rw [nI_1]) (ih (by rw [htop, if_pos (bneg h56)]))
        · refine go_iload3 C (pc := 59) dX1_leastColor_59 ?_
          exact go_iret C hr dX1_leastColor_60 (⟨by rw [lcN, htop, if_neg (by rw [bpos h56]; decide)], rfl⟩)
  have key : ∀ i, i ≤ n → Go p l e (headSpec wsX1_leastColor (RM 1 21)).room s m ([.ref (ad 20), .int S] : List Value).toArray below meth c 0 0 (MQ below (va_Qi (fun (r : Int32) (μ' : Mem) => r = nI (lcN (tkI g S n)) ∧ μ' = μ) (fun μ' t => PreW D ad cI cL μ' t) (AW ad)) ([.ref (ad 20), .int S] : List Value).toArray s 0 0 (AW ad)) (AW ad) D ad cI cL 4 4 [some (.ref (ad 20)), some (.int S), some (.int (tkI g S i)), some (.int (nI i))] [] (μ) := by
    refine dn_ind ?_ ?_
    · refine go_iload3 C (pc := 4) dX1_leastColor_4 ?_
      refine go_aload0 C (pc := 5) dX1_leastColor_5 ?_
      refine go_get C (pc := 6) 20 (by decide) rfl rfl 0 (by decide) rfl rfl hi_X1_leastColor_RX1 lk_X1_leastColor_23 dX1_leastColor_6 ?_
      refine go_getN C (pc := 9) 1 (by decide) rfl rfl 0 (by decide) rfl rfl hi_X1_leastColor_RX5 (host := "ThornCores") (by decide +kernel) dX1_leastColor_9 ?_
      refine go_icmp_ge C (pc := 12) (tgt := 43) dX1_leastColor_12 (by decide) (fun h12 => ?_) (fun h12 => ?_)
      · refine go_iconst C (pc := 43) (v := 0) (by decide) dX1_leastColor_43 ?_
        refine go_istore3 C (pc := 44) dX1_leastColor_44 ?_
        exact go_lv (by rw [nI_0]) (key2 0 (Nat.zero_le _) rfl)
      · exact absurd (cnt_le hc (Nat.le_refl _) (by omega)) h12
    · intro i hi ih
      refine go_iload3 C (pc := 4) dX1_leastColor_4 ?_
      refine go_aload0 C (pc := 5) dX1_leastColor_5 ?_
      refine go_get C (pc := 6) 20 (by decide) rfl rfl 0 (by decide) rfl rfl hi_X1_leastColor_RX1 lk_X1_leastColor_23 dX1_leastColor_6 ?_
      refine go_getN C (pc := 9) 1 (by decide) rfl rfl 0 (by decide) rfl rfl hi_X1_leastColor_RX5 (host := "ThornCores") (by decide +kernel) dX1_leastColor_9 ?_
      refine go_icmp_ge C (pc := 12) (tgt := 43) dX1_leastColor_12 (by decide) (fun h12 => ?_) (fun h12 => ?_)
      · exact absurd h12 (cnt_nle hc hi (by omega))
      · refine go_iload1 C (pc := 15) dX1_leastColor_15 ?_
        refine go_iload3 C (pc := 16) dX1_leastColor_16 ?_
        refine go_ciSN2 C (pc := 17) (host := "ThornCores") (c_X7_inN C.fl C.ok _ _ _ (by omega)) gX1_leastColor_X7_in_n72 rfl (by decide +kernel) lw_X1_leastColor_s_X7_in lw_X1_leastColor_i_X7_in yok_X7_in ⟨rfl, rfl⟩ ⟨Nat.le_of_ble_eq_true rfl, Nat.le_of_ble_eq_true rfl⟩ (Nat.le_of_ble_eq_true rfl) ⟨Nat.zero_le _, Nat.zero_le _⟩ dX1_leastColor_17 (fun r7 μ7 hc7 => ?_)
        obtain ⟨rfl, hm7⟩ := hc7
        replace hm7 := hm7.symm
        subst hm7
        refine go_if_eq C (pc := 20) (tgt := 37) dX1_leastColor_20 (by decide) (fun h20 => ?_) (fun h20 => ?_)
        · refine go_iinc3 C (pc := 37) (v := 1) dX1_leastColor_37 (by decide) ?_
          refine go_goto C (pc := 40) (tgt := 4) dX1_leastColor_40 (by decide) ?_
          exact go_lv (by rw [nI_1, tkI, if_neg (by rw [bpos h20]; decide)]) ih
        · refine go_iload2 C (pc := 23) dX1_leastColor_23 ?_
          refine go_aload0 C (pc := 24) dX1_leastColor_24 ?_
          refine go_get C (pc := 25) 20 (by decide) rfl rfl 2 (by decide) rfl rfl hi_X1_leastColor_RX1 lk_X1_leastColor_20 dX1_leastColor_25 ?_
          refine go_iload3 C (pc := 28) dX1_leastColor_28 ?_
          refine go_ciV1 C (pc := 29) obj_23 (c_X3_atN C.fl C.ok _ 23 16 row_23 _  (by omega)) gX1_leastColor_X3_at rfl rfl yok_X3_at ⟨rfl, rfl⟩ ⟨Nat.le_of_ble_eq_true rfl, Nat.le_of_ble_eq_true rfl⟩ (Nat.le_of_ble_eq_true rfl) ⟨Nat.zero_le _, Nat.zero_le _⟩ dX1_leastColor_29 (fun r9 μ9 hc9 => ?_)
          obtain ⟨rfl, hm9⟩ := hc9
          replace hm9 := hm9.symm
          subst hm9
          refine go_top (y := μ 24 i) rfl ?_
          refine go_ciSN1 C (pc := 32) (host := "ThornCores") (c_X7_bit C.fl C.ok _ _ ) gX1_leastColor_X7_bit_n60 rfl (by decide +kernel) lw_X1_leastColor_s_X7_bit lw_X1_leastColor_i_X7_bit yok_X7_bit ⟨rfl, rfl⟩ ⟨Nat.le_of_ble_eq_true rfl, Nat.le_of_ble_eq_true rfl⟩ (Nat.le_of_ble_eq_true rfl) ⟨Nat.zero_le _, Nat.zero_le _⟩ dX1_leastColor_32 (fun r10 μ10 hc10 => ?_)
          obtain ⟨rfl, hm10⟩ := hc10
          replace hm10 := hm10.symm
          subst hm10
          refine go_ior C (pc := 35) dX1_leastColor_35 ?_
          refine go_istore2 C (pc := 36) dX1_leastColor_36 ?_
          refine go_iinc3 C (pc := 37) (v := 1) dX1_leastColor_37 (by decide) ?_
          refine go_goto C (pc := 40) (tgt := 4) dX1_leastColor_40 (by decide) ?_
          exact go_lv (by rw [nI_1, tkI, if_pos (bneg h20), (hg i (bneg h20)).1]) ih
  refine go_iconst C (pc := 0) (v := 0) (by decide) dX1_leastColor_0 ?_
  refine go_istore2 C (pc := 1) dX1_leastColor_1 ?_
  refine go_iconst C (pc := 2) (v := 0) (by decide) dX1_leastColor_2 ?_
  refine go_istore3 C (pc := 3) dX1_leastColor_3 ?_
  exact go_lv (by rw [nI_0]; rfl) (key 0 (Nat.zero_le _))

theorem down_nI {n k : Nat} (hk : k < n) (hn : n ≤ 16) : nI n - 1 - nI k = nI (n - 1 - k) := by
  rw [show (1 : Int32) = nI 1 from rfl, pk_sub (by omega), pk_sub (by omega)]
theorem down_s {n k : Nat} (hk : k < n) (hn : n ≤ 16) : nI (n - 1 - k) + (-1) = nI n - 1 - nI (k + 1) := by
  have h : ∀ n, n < 17 → ∀ k, k < n → nI (n - 1 - k) + (-1) = nI n - 1 - nI (k + 1) := by decide +kernel
  exact h n (by omega) k hk
theorem down_neg {n : Nat} (hn : n ≤ 16) : nI n - 1 - nI n = -1 := by
  have h : ∀ n, n < 17 → nI n - 1 - nI n = -1 := by decide +kernel
  exact h n (by omega)
theorem yok_X1_giveColors : yOK yX1_giveColors 0 := by unfold yOK; decide +kernel
theorem hi_X1_giveColors_RX1 : ∀ w ∈ wsX10, w ∈ wsX1_giveColors := by decide +kernel
theorem lk_X1_giveColors_14 : Cond.fieldLink RX1 14 "ThornCores$Falling" "order" "LThornCores$Row;" ∈ wsX1_giveColors := by decide +kernel
theorem lk_X1_giveColors_20 : Cond.fieldLink RX1 20 "ThornCores$Falling" "given" "LThornCores$Row;" ∈ wsX1_giveColors := by decide +kernel
theorem lk_X1_giveColors_23 : Cond.fieldLink RX1 23 "ThornCores$Falling" "thicket" "LThornCores$Thicket;" ∈ wsX1_giveColors := by decide +kernel
theorem lw_X1_giveColors_s_X7_bit : Cond.static yX7_bit ∈ wsX1_giveColors := by decide +kernel
theorem lw_X1_giveColors_i_X7_bit : Cond.initialized RX7 ∈ wsX1_giveColors := by decide +kernel
theorem hi_X1_giveColors_RX5 : ∀ w ∈ wsX50, w ∈ wsX1_giveColors := by decide +kernel
set_option maxRecDepth 20000 in
set_option maxHeartbeats 4000000 in
theorem c_X1_giveColors {l : Launch} {D : va_G} {ad : Nat → Nat} {cI cL : ClassId} (hfl : l.flags = flags0) (hok : adOK ad) (μ : Mem) {n : Nat} (hc : μ 1 0 = nI n) (hT : TV n (μ 1 1) (μ 3)) : CtV l D ad cI cL yX1_giveColors wsX1_giveColors (RM 4 92) [.ref (ad 20)] μ (fun (μ' : Mem) => ∃ F G, μ' = mset (mset μ 22 F) 24 G ∧ ∀ q, q < n → G q = nI (colN (μ 3) (μ 1 1) n q)) := by
  refine ct_v (cc := cX1_giveColors) (maxL := 4) (own := RX1) hfl hok (by decide) rfl rfl rfl (Nat.le_of_ble_eq_true rfl) (fun p e s m below meth c C hr => ?_)
  refine go_lv (lv' := [some (.ref (ad 20)), none, none, none]) rfl ?_
  have hn := hT.1
  have key : ∀ F, (∀ x, x < n → F x = nI (ordN (μ 3) (μ 1 1) n x)) → ∀ k, k ≤ n → ∀ G, (∀ q, bt (colS (μ 3) (μ 1 1) n k).2 q = true → G q = nI ((colS (μ 3) (μ 1 1) n k).1 q)) → Go p l e (headSpec wsX1_giveColors (RM 4 92)).room s m ([.ref (ad 20)] : List Value).toArray below meth c 0 0 (MQ below (va_Qv (fun (μ' : Mem) => ∃ F G, μ' = mset (mset μ 22 F) 24 G ∧ ∀ q, q < n → G q = nI (colN (μ 3) (μ 1 1) n q)) (fun μ' t => PreW D ad cI cL μ' t) (AW ad)) ([.ref (ad 20)] : List Value).toArray s 0 0 (AW ad)) (AW ad) D ad cI cL 4 16 [some (.ref (ad 20)), some (.int (colS (μ 3) (μ 1 1) n k).2), some (.int (nI n - 1 - nI k)), none] [] (mset (mset μ 22 F) 24 G) := by
    intro F hF
    refine dn_ind ?_ ?_
    · intro G hG
      refine go_iload2 C (pc := 16) dX1_giveColors_16 ?_
      refine go_if_lt C (pc := 17) (tgt := 64) dX1_giveColors_17 (by decide) (fun h17 => ?_) (fun h17 => ?_)
      · exact go_vret C hr dX1_giveColors_64 (⟨F, G, rfl, fun q hq => hG q (col_all hT hq)⟩)
      · exact absurd (by rw [down_neg hn]; decide) h17
    · intro k hk ih G hG
      have ho := (ord_in hT (show n - 1 - k < n by omega)).1
      obtain ⟨P, hP⟩ : ∃ P, P = ordN (μ 3) (μ 1 1) n (n - 1 - k) := ⟨_, rfl⟩
      rw [← hP] at ho
      refine go_lv (lv' := [some (.ref (ad 20)), some (.int (colS (μ 3) (μ 1 1) n k).2), some (.int (nI (n - 1 - k))), none]) (by rw [down_nI hk hn]) ?_
      refine go_iload2 C (pc := 16) dX1_giveColors_16 ?_
      refine go_if_lt C (pc := 17) (tgt := 64) dX1_giveColors_17 (by decide) (fun h17 => ?_) (fun h17 => ?_)
      · exact absurd h17 (nI_pos (by omega))
      · refine go_aload0 C (pc := 20) dX1_giveColors_20 ?_
        refine go_get C (pc := 21) 20 (by decide) rfl rfl 1 (by decide) rfl rfl hi_X1_giveColors_RX1 lk_X1_giveColors_14 dX1_giveColors_21 ?_
        refine go_iload2 C (pc := 24) dX1_giveColors_24 ?_
        refine go_ciV1 C (pc := 25) obj_21 (c_X3_atN C.fl C.ok _ 21 16 row_21 _  (by omega)) gX1_giveColors_X3_at rfl rfl yok_X3_at ⟨rfl, rfl⟩ ⟨Nat.le_of_ble_eq_true rfl, Nat.le_of_ble_eq_true rfl⟩ (Nat.le_of_ble_eq_true rfl) ⟨Nat.zero_le _, Nat.zero_le _⟩ dX1_giveColors_25 (fun r3 μ3 hc3 => ?_)
        obtain ⟨rfl, hm3⟩ := hc3
        replace hm3 := hm3.symm
        subst hm3
        refine go_top (y := nI P) (by rw [hP]; exact hF (n - 1 - k) (by omega)) ?_
        refine go_istore3 C (pc := 28) dX1_giveColors_28 ?_
        refine go_aload0 C (pc := 29) dX1_giveColors_29 ?_
        refine go_get C (pc := 30) 20 (by decide) rfl rfl 2 (by decide) rfl rfl hi_X1_giveColors_RX1 lk_X1_giveColors_20 dX1_giveColors_30 ?_
        refine go_iload3 C (pc := 33) dX1_giveColors_33 ?_
        refine go_aload0 C (pc := 34) dX1_giveColors_34 ?_
        refine go_aload0 C (pc := 35) dX1_giveColors_35 ?_
        refine go_get C (pc := 36) 20 (by decide) rfl rfl 0 (by decide) rfl rfl hi_X1_giveColors_RX1 lk_X1_giveColors_23 dX1_giveColors_36 ?_
        refine go_iload3 C (pc := 39) dX1_giveColors_39 ?_
        refine go_ciV1 C (pc := 40) obj_1 (c_X5_aroundN C.fl C.ok _ _ (by omega)) gX1_giveColors_X5_around rfl rfl yok_X5_around ⟨rfl, rfl⟩ ⟨Nat.le_of_ble_eq_true rfl, Nat.le_of_ble_eq_true rfl⟩ (Nat.le_of_ble_eq_true rfl) ⟨Nat.zero_le _, Nat.zero_le _⟩ dX1_giveColors_40 (fun r4 μ4 hc4 => ?_)
        obtain ⟨rfl, hm4⟩ := hc4
        replace hm4 := hm4.symm
        subst hm4
        refine go_top (y := μ 3 P) rfl ?_
        refine go_iload1 C (pc := 43) dX1_giveColors_43 ?_
        refine go_iand C (pc := 44) dX1_giveColors_44 ?_
        refine go_ciV1 C (pc := 45) obj_20 (c_X1_leastColor C.fl C.ok (mset (mset μ 22 F) 24 G) _ (colS (μ 3) (μ 1 1) n k).1 hc hT (fun q hq => by rw [b_and, Bool.and_eq_true] at hq; exact ⟨hG q hq.2, colS_le k q⟩)) gX1_giveColors_X1_leastColor rfl rfl yok_X1_leastColor ⟨rfl, rfl⟩ ⟨Nat.le_of_ble_eq_true rfl, Nat.le_of_ble_eq_true rfl⟩ (Nat.le_of_ble_eq_true rfl) ⟨Nat.zero_le _, Nat.zero_le _⟩ dX1_giveColors_45 (fun r5 μ5 hc5 => ?_)
        obtain ⟨rfl, hm5⟩ := hc5
        replace hm5 := hm5.symm
        subst hm5
        refine go_top (y := nI (lcN (tkI (colS (μ 3) (μ 1 1) n k).1 (μ 3 P &&& (colS (μ 3) (μ 1 1) n k).2) n))) rfl ?_
        refine go_cvV2 C (pc := 48) obj_23 (c_X3_putN C.fl C.ok _ 23 16 row_23 _ _  (by omega)) gX1_giveColors_X3_put rfl rfl yok_X3_put ⟨rfl, rfl⟩ ⟨Nat.le_of_ble_eq_true rfl, Nat.le_of_ble_eq_true rfl⟩ (Nat.le_of_ble_eq_true rfl) ⟨Nat.zero_le _, Nat.zero_le _⟩ dX1_giveColors_48 (fun μ6 hc6 => ?_)
        replace hc6 := hc6.symm
        subst hc6
        refine go_iload1 C (pc := 51) dX1_giveColors_51 ?_
        refine go_iload3 C (pc := 52) dX1_giveColors_52 ?_
        refine go_ciSN1 C (pc := 53) (host := "ThornCores") (c_X7_bit C.fl C.ok _ _ ) gX1_giveColors_X7_bit_n60 rfl (by decide +kernel) lw_X1_giveColors_s_X7_bit lw_X1_giveColors_i_X7_bit yok_X7_bit ⟨rfl, rfl⟩ ⟨Nat.le_of_ble_eq_true rfl, Nat.le_of_ble_eq_true rfl⟩ (Nat.le_of_ble_eq_true rfl) ⟨Nat.zero_le _, Nat.zero_le _⟩ dX1_giveColors_53 (fun r7 μ7 hc7 => ?_)
        obtain ⟨rfl, hm7⟩ := hc7
        replace hm7 := hm7.symm
        subst hm7
        refine go_ior C (pc := 56) dX1_giveColors_56 ?_
        refine go_istore1 C (pc := 57) dX1_giveColors_57 ?_
        refine go_iinc2 C (pc := 58) (v := -1) dX1_giveColors_58 (by decide) ?_
        refine go_goto C (pc := 61) (tgt := 16) dX1_giveColors_61 (by decide) ?_
        refine go_drop3 (go_lv (by rw [down_s hk hn, colS_2, ← hP]) (go_mem (mset_mset (mset μ 22 F) 24 G _) (ih _ (fun q hq => ?_))))
        rw [show colS (μ 3) (μ 1 1) n (k + 1) = (updN (colS (μ 3) (μ 1 1) n k).1 P (lcN (tkI (colS (μ 3) (μ 1 1) n k).1 (μ 3 P &&& (colS (μ 3) (μ 1 1) n k).2) n)), (colS (μ 3) (μ 1 1) n k).2 ||| bitI (nI P)) from by rw [colS, ← hP]] at hq ⊢
        by_cases e : q = P
        · subst e; exact pk_us.trans (congrArg nI (updN_same _ _ _).symm)
        · rw [b_or, bitI, b_bit (by omega), decide_eq_false e, Bool.or_false] at hq
          exact (pk_un e).trans ((hG q hq).trans (congrArg nI (updN_ne _ _ e).symm))
  refine go_aload0 C (pc := 0) dX1_giveColors_0 ?_
  refine go_cvV0 C (pc := 1) obj_20 (c_X1_findOrder C.fl C.ok _ hc hT) gX1_giveColors_X1_findOrder rfl rfl yok_X1_findOrder ⟨rfl, rfl⟩ ⟨Nat.le_of_ble_eq_true rfl, Nat.le_of_ble_eq_true rfl⟩ (Nat.le_of_ble_eq_true rfl) ⟨Nat.zero_le _, Nat.zero_le _⟩ dX1_giveColors_1 (fun μ8 hc8 => ?_)
  obtain ⟨F, rfl, hF⟩ := hc8
  have hc2 : (mset μ 22 F) 1 0 = nI n := hc
  refine go_iconst C (pc := 4) (v := 0) (by decide) dX1_giveColors_4 ?_
  refine go_istore1 C (pc := 5) dX1_giveColors_5 ?_
  refine go_aload0 C (pc := 6) dX1_giveColors_6 ?_
  refine go_get C (pc := 7) 20 (by decide) rfl rfl 0 (by decide) rfl rfl hi_X1_giveColors_RX1 lk_X1_giveColors_23 dX1_giveColors_7 ?_
  refine go_getN C (pc := 10) 1 (by decide) rfl rfl 0 (by decide) rfl rfl hi_X1_giveColors_RX5 (host := "ThornCores") (by decide +kernel) dX1_giveColors_10 ?_
  refine go_iconst C (pc := 13) (v := 1) (by decide) dX1_giveColors_13 ?_
  refine go_isub C (pc := 14) dX1_giveColors_14 ?_
  refine go_istore2 C (pc := 15) dX1_giveColors_15 ?_
  exact go_lv (by rw [hc2]; simp [nI_0]; rfl) (go_mem (mset_id (mset μ 22 F) 24).symm (key F hF 0 (Nat.zero_le _) _ (fun q h => absurd h (by rw [show (colS (μ 3) (μ 1 1) n 0).2 = 0 from rfl, b_0]; decide))))

theorem yok_X1_color : yOK yX1_color 1 := by unfold yOK; decide +kernel
theorem hi_X1_color_RX1 : ∀ w ∈ wsX10, w ∈ wsX1_color := by decide +kernel
theorem lk_X1_color_20 : Cond.fieldLink RX1 20 "ThornCores$Falling" "given" "LThornCores$Row;" ∈ wsX1_color := by decide +kernel
set_option maxRecDepth 20000 in
set_option maxHeartbeats 4000000 in
theorem c_X1_color {l : Launch} {D : va_G} {ad : Nat → Nat} {cI cL : ClassId} (hfl : l.flags = flags0) (hok : adOK ad) (μ : Mem) (j : Nat) {n : Nat} (hc : μ 1 0 = nI n) (hT : TV n (μ 1 1) (μ 3)) (hj : j < n) : CtI l D ad cI cL yX1_color wsX1_color (RM 5 115) [.ref (ad 20), .int (nI j)] μ (fun (r : Int32) (μ' : Mem) => r = nI (colN (μ 3) (μ 1 1) n j) ∧ ∃ F G, μ' = mset (mset μ 22 F) 24 G) := by
  refine ct_i (cc := cX1_color) (maxL := 2) (own := RX1) .int hfl hok (by decide) rfl rfl rfl (Nat.le_of_ble_eq_true rfl) (fun p e s m below meth c C hr => ?_)
  refine go_lv (lv' := [some (.ref (ad 20)), some (.int (nI j))]) rfl ?_
  have hn := hT.1
  refine go_aload0 C (pc := 0) dX1_color_0 ?_
  refine go_cvV0 C (pc := 1) obj_20 (c_X1_giveColors C.fl C.ok _ hc hT) gX1_color_X1_giveColors rfl rfl yok_X1_giveColors ⟨rfl, rfl⟩ ⟨Nat.le_of_ble_eq_true rfl, Nat.le_of_ble_eq_true rfl⟩ (Nat.le_of_ble_eq_true rfl) ⟨Nat.zero_le _, Nat.zero_le _⟩ dX1_color_1 (fun μ1 hc1 => ?_)
  obtain ⟨F, G, rfl, hG⟩ := hc1
  refine go_aload0 C (pc := 4) dX1_color_4 ?_
  refine go_get C (pc := 5) 20 (by decide) rfl rfl 2 (by decide) rfl rfl hi_X1_color_RX1 lk_X1_color_20 dX1_color_5 ?_
  refine go_iload1 C (pc := 8) dX1_color_8 ?_
  refine go_ciV1 C (pc := 9) obj_23 (c_X3_atN C.fl C.ok _ 23 16 row_23 _  (by omega)) gX1_color_X3_at rfl rfl yok_X3_at ⟨rfl, rfl⟩ ⟨Nat.le_of_ble_eq_true rfl, Nat.le_of_ble_eq_true rfl⟩ (Nat.le_of_ble_eq_true rfl) ⟨Nat.zero_le _, Nat.zero_le _⟩ dX1_color_9 (fun r2 μ2 hc2 => ?_)
  obtain ⟨rfl, hm2⟩ := hc2
  replace hm2 := hm2.symm
  subst hm2
  exact go_iret C hr dX1_color_12 (⟨hG j hj, F, G, rfl⟩)

theorem colM_le {th : Nat → Int32} {n : Nat} {pr : Int32} : ∀ i, colM th pr n i ≤ 16
  | 0 => by show 0 ≤ 16; decide
  | i + 1 => by
    have h : colN th pr n i ≤ 15 := colS_le n i
    have ih := colM_le (th := th) (n := n) (pr := pr) i
    rw [colM]
    split <;> omega
theorem col_max {th : Nat → Int32} {n i : Nat} {pr : Int32} : (if nI (colM th pr n i) < nI (colN th pr n i + 1) then nI (colN th pr n i + 1) else nI (colM th pr n i)) = nI (colM th pr n (i + 1)) := by
  have h : colN th pr n i ≤ 15 := colS_le n i
  have h2 := colM_le (th := th) (n := n) (pr := pr) i
  rw [colM]
  by_cases q : colM th pr n i < colN th pr n i + 1
  · rw [if_pos q, if_pos (nI_lt q (by omega))]
  · rw [if_neg q, if_neg (nI_nlt (by omega) (by omega))]
theorem yok_X1_colorCount : yOK yX1_colorCount 0 := by unfold yOK; decide +kernel
theorem hi_X1_colorCount_RX1 : ∀ w ∈ wsX10, w ∈ wsX1_colorCount := by decide +kernel
theorem lk_X1_colorCount_23 : Cond.fieldLink RX1 23 "ThornCores$Falling" "thicket" "LThornCores$Thicket;" ∈ wsX1_colorCount := by decide +kernel
theorem hi_X1_colorCount_RX5 : ∀ w ∈ wsX50, w ∈ wsX1_colorCount := by decide +kernel
theorem lk_X1_colorCount_20 : Cond.fieldLink RX1 20 "ThornCores$Falling" "given" "LThornCores$Row;" ∈ wsX1_colorCount := by decide +kernel
theorem lw_X1_colorCount_l43 : Cond.methodLink RX1 43 Lib.Math.max.name ∈ wsX1_colorCount := by decide +kernel
theorem lw_X1_colorCount_s43 : Cond.static Lib.Math.max.name ∈ wsX1_colorCount := by decide +kernel
theorem lw_X1_colorCount_i43 : Cond.initialized "java/lang/Math" ∈ wsX1_colorCount := by decide +kernel
theorem lw_X1_colorCount_c43 : Cond.code Lib.Math.max.name Lib.Math.max.code 2 (some .int) ∈ wsX1_colorCount := by decide +kernel
set_option maxRecDepth 20000 in
set_option maxHeartbeats 4000000 in
theorem c_X1_colorCount {l : Launch} {D : va_G} {ad : Nat → Nat} {cI cL : ClassId} (hfl : l.flags = flags0) (hok : adOK ad) (μ : Mem) {n : Nat} (hc : μ 1 0 = nI n) (hT : TV n (μ 1 1) (μ 3)) : CtI l D ad cI cL yX1_colorCount wsX1_colorCount (RM 5 115) [.ref (ad 20)] μ (fun (r : Int32) (μ' : Mem) => r = nI (colM (μ 3) (μ 1 1) n n) ∧ ∃ F G, μ' = mset (mset μ 22 F) 24 G) := by
  refine ct_i (cc := cX1_colorCount) (maxL := 3) (own := RX1) .int hfl hok (by decide) rfl rfl rfl (Nat.le_of_ble_eq_true rfl) (fun p e s m below meth c C hr => ?_)
  refine go_lv (lv' := [some (.ref (ad 20)), none, none]) rfl ?_
  have hn := hT.1
  have key : ∀ F G, (∀ q, q < n → G q = nI (colN (μ 3) (μ 1 1) n q)) → ∀ i, i ≤ n → Go p l e (headSpec wsX1_colorCount (RM 5 115)).room s m ([.ref (ad 20)] : List Value).toArray below meth c 0 0 (MQ below (va_Qi (fun (r : Int32) (μ' : Mem) => r = nI (colM (μ 3) (μ 1 1) n n) ∧ ∃ F G, μ' = mset (mset μ 22 F) 24 G) (fun μ' t => PreW D ad cI cL μ' t) (AW ad)) ([.ref (ad 20)] : List Value).toArray s 0 0 (AW ad)) (AW ad) D ad cI cL 3 8 [some (.ref (ad 20)), some (.int (nI (colM (μ 3) (μ 1 1) n i))), some (.int (nI i))] [] (mset (mset μ 22 F) 24 G) := by
    intro F G hG
    refine dn_ind ?_ ?_
    · refine go_iload2 C (pc := 8) dX1_colorCount_8 ?_
      refine go_aload0 C (pc := 9) dX1_colorCount_9 ?_
      refine go_get C (pc := 10) 20 (by decide) rfl rfl 0 (by decide) rfl rfl hi_X1_colorCount_RX1 lk_X1_colorCount_23 dX1_colorCount_10 ?_
      refine go_getN C (pc := 13) 1 (by decide) rfl rfl 0 (by decide) rfl rfl hi_X1_colorCount_RX5 (host := "ThornCores") (by decide +kernel) dX1_colorCount_13 ?_
      refine go_icmp_ge C (pc := 16) (tgt := 40) dX1_colorCount_16 (by decide) (fun h16 => ?_) (fun h16 => ?_)
      · refine go_iload1 C (pc := 40) dX1_colorCount_40 ?_
        exact go_iret C hr dX1_colorCount_41 (⟨rfl, F, G, rfl⟩)
      · exact absurd (cnt_le hc (Nat.le_refl _) (by omega)) h16
    · intro i hi ih
      refine go_iload2 C (pc := 8) dX1_colorCount_8 ?_
      refine go_aload0 C (pc := 9) dX1_colorCount_9 ?_
      refine go_get C (pc := 10) 20 (by decide) rfl rfl 0 (by decide) rfl rfl hi_X1_colorCount_RX1 lk_X1_colorCount_23 dX1_colorCount_10 ?_
      refine go_getN C (pc := 13) 1 (by decide) rfl rfl 0 (by decide) rfl rfl hi_X1_colorCount_RX5 (host := "ThornCores") (by decide +kernel) dX1_colorCount_13 ?_
      refine go_icmp_ge C (pc := 16) (tgt := 40) dX1_colorCount_16 (by decide) (fun h16 => ?_) (fun h16 => ?_)
      · exact absurd h16 (cnt_nle hc hi (by omega))
      · refine go_iload1 C (pc := 19) dX1_colorCount_19 ?_
        refine go_aload0 C (pc := 20) dX1_colorCount_20 ?_
        refine go_get C (pc := 21) 20 (by decide) rfl rfl 2 (by decide) rfl rfl hi_X1_colorCount_RX1 lk_X1_colorCount_20 dX1_colorCount_21 ?_
        refine go_iload2 C (pc := 24) dX1_colorCount_24 ?_
        refine go_ciV1 C (pc := 25) obj_23 (c_X3_atN C.fl C.ok _ 23 16 row_23 _  (by omega)) gX1_colorCount_X3_at rfl rfl yok_X3_at ⟨rfl, rfl⟩ ⟨Nat.le_of_ble_eq_true rfl, Nat.le_of_ble_eq_true rfl⟩ (Nat.le_of_ble_eq_true rfl) ⟨Nat.zero_le _, Nat.zero_le _⟩ dX1_colorCount_25 (fun r3 μ3 hc3 => ?_)
        obtain ⟨rfl, hm3⟩ := hc3
        replace hm3 := hm3.symm
        subst hm3
        refine go_top (y := nI (colN (μ 3) (μ 1 1) n i)) (hG i hi) ?_
        refine go_iconst C (pc := 28) (v := 1) (by decide) dX1_colorCount_28 ?_
        refine go_iadd C (pc := 29) dX1_colorCount_29 ?_
        refine go_mmax C (pc := 30) lw_X1_colorCount_l43 lw_X1_colorCount_s43 lw_X1_colorCount_i43 lw_X1_colorCount_c43 (Nat.le_of_ble_eq_true rfl) (by decide) ⟨Nat.le_refl _, Nat.le_refl _⟩ dX1_colorCount_30 ?_
        refine go_istore1 C (pc := 33) dX1_colorCount_33 ?_
        refine go_iinc2 C (pc := 34) (v := 1) dX1_colorCount_34 (by decide) ?_
        refine go_goto C (pc := 37) (tgt := 8) dX1_colorCount_37 (by decide) ?_
        exact go_lv (by rw [nI_1, nI_1, col_max]) ih
  refine go_aload0 C (pc := 0) dX1_colorCount_0 ?_
  refine go_cvV0 C (pc := 1) obj_20 (c_X1_giveColors C.fl C.ok _ hc hT) gX1_colorCount_X1_giveColors rfl rfl yok_X1_giveColors ⟨rfl, rfl⟩ ⟨Nat.le_of_ble_eq_true rfl, Nat.le_of_ble_eq_true rfl⟩ (Nat.le_of_ble_eq_true rfl) ⟨Nat.zero_le _, Nat.zero_le _⟩ dX1_colorCount_1 (fun μ4 hc4 => ?_)
  obtain ⟨F, G, rfl, hG⟩ := hc4
  refine go_iconst C (pc := 4) (v := 0) (by decide) dX1_colorCount_4 ?_
  refine go_istore1 C (pc := 5) dX1_colorCount_5 ?_
  refine go_iconst C (pc := 6) (v := 0) (by decide) dX1_colorCount_6 ?_
  refine go_istore2 C (pc := 7) dX1_colorCount_7 ?_
  exact go_lv (by rw [nI_0]; rfl) (key F G hG 0 (Nat.zero_le _))

