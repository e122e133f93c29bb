/-! ===== ThornCores$Cores: lowerNumbers, numberByRounds ===== -/
theorem numOK_up {F : Nat → Int32} {g : Nat → Nat} {n i v : Nat} (h : numOK F g n) (hv : v ≤ 15) : numOK (upd F i (nI v)) (updN g i v) n := fun q hq => by
  unfold upd updN
  split
  · exact ⟨rfl, hv⟩
  · exact h q hq
theorem numOK_nI {F : Nat → Int32} {g : Nat → Nat} {n i : Nat} (h : numOK F g n) (hi : i < n) : F i = nI (g i) := (h i hi).1
theorem nI_inj3 {a b : Nat} (ha : a < 2 ^ 31) (hb : b < 2 ^ 31) (h : nI a = nI b) : a = b := (nI_eq ha hb).mp h
theorem yok_X0_lowerNumbers : yOK yX0_lowerNumbers 0 := by unfold yOK; decide +kernel
theorem hi_X0_lowerNumbers_RX0 : ∀ w ∈ wsX00, w ∈ wsX0_lowerNumbers := by decide +kernel
theorem lk_X0_lowerNumbers_20 : Cond.fieldLink RX0 20 "ThornCores$Cores" "thicket" "LThornCores$Thicket;" ∈ wsX0_lowerNumbers := by decide +kernel
theorem hi_X0_lowerNumbers_RX5 : ∀ w ∈ wsX50, w ∈ wsX0_lowerNumbers := by decide +kernel
theorem lk_X0_lowerNumbers_14 : Cond.fieldLink RX0 14 "ThornCores$Cores" "numbers" "LThornCores$Row;" ∈ wsX0_lowerNumbers := by decide +kernel
set_option maxRecDepth 20000 in
set_option maxHeartbeats 4000000 in
theorem c_X0_lowerNumbers {l : Launch} {D : va_G} {ad : Nat → Nat} {cI cL : ClassId} (hfl : l.flags = flags0) (hok : adOK ad) (μ : Mem) {n : Nat} (hc : μ 1 0 = nI n) (hT : TV n (μ 1 1) (μ 3)) (g : Nat → Nat) (hg : numOK (μ 14) g n) : CtI l D ad cI cL yX0_lowerNumbers wsX0_lowerNumbers (RM 4 89) [.ref (ad 12)] μ (fun (r : Int32) (μ' : Mem) => r = b2i (lowC (μ 3) (μ 1 1) n g n) ∧ ∃ F, μ' = mset μ 14 F ∧ numOK F (lowG (μ 3) (μ 1 1) n g n) n) := by
  refine ct_i (cc := cX0_lowerNumbers) (maxL := 4) (own := RX0) .boolean hfl hok (by decide) rfl rfl rfl (Nat.le_of_ble_eq_true rfl) (fun p e s m below meth c C hr => ?_)
  refine go_lv (lv' := [some (.ref (ad 12)), none, none, none]) rfl ?_
  have hn := hT.1
  have key : ∀ i, i ≤ n → ∀ F, numOK F (lowG (μ 3) (μ 1 1) n g i) n → Go p l e (headSpec wsX0_lowerNumbers (RM 4 89)).room s m ([.ref (ad 12)] : List Value).toArray below meth c 0 0 (MQ below (va_Qi (fun (r : Int32) (μ' : Mem) => r = b2i (lowC (μ 3) (μ 1 1) n g n) ∧ ∃ F, μ' = mset μ 14 F ∧ numOK F (lowG (μ 3) (μ 1 1) n g n) n) (fun μ' t => PreW D ad cI cL μ' t) (AW ad)) ([.ref (ad 12)] : List Value).toArray s 0 0 (AW ad)) (AW ad) D ad cI cL 4 4 [some (.ref (ad 12)), some (.int (b2i (lowC (μ 3) (μ 1 1) n g i))), some (.int (nI i)), none] [] (mset μ 14 F) := by
    refine dn_ind ?_ ?_
    · intro F hF
      refine go_iload2 C (pc := 4) dX0_lowerNumbers_4 ?_
      refine go_aload0 C (pc := 5) dX0_lowerNumbers_5 ?_
      refine go_get C (pc := 6) 12 (by decide) rfl rfl 0 (by decide) rfl rfl hi_X0_lowerNumbers_RX0 lk_X0_lowerNumbers_20 dX0_lowerNumbers_6 ?_
      refine go_getN C (pc := 9) 1 (by decide) rfl rfl 0 (by decide) rfl rfl hi_X0_lowerNumbers_RX5 (host := "ThornCores") (by decide +kernel) dX0_lowerNumbers_9 ?_
      refine go_icmp_ge C (pc := 12) (tgt := 69) dX0_lowerNumbers_12 (by decide) (fun h12 => ?_) (fun h12 => ?_)
      · refine go_iload1 C (pc := 69) dX0_lowerNumbers_69 ?_
        exact go_zret C hr dX0_lowerNumbers_70 (by first | decide | exact b2i_01 _) (⟨rfl, F, rfl, hF⟩)
      · exact absurd (cnt_le hc (Nat.le_refl _) (by omega)) h12
    · intro i hi ih F hF
      have hgh : ghN (μ 3) (lowG (μ 3) (μ 1 1) n g i) n i ≤ 15 := (by have := topK_le (fun h => decide (h ≤ nfN (μ 3) (lowG (μ 3) (μ 1 1) n g i) i h n)) (lowG (μ 3) (μ 1 1) n g i i); have := (hF i hi).2; unfold ghN; omega)
      refine go_iload2 C (pc := 4) dX0_lowerNumbers_4 ?_
      refine go_aload0 C (pc := 5) dX0_lowerNumbers_5 ?_
      refine go_get C (pc := 6) 12 (by decide) rfl rfl 0 (by decide) rfl rfl hi_X0_lowerNumbers_RX0 lk_X0_lowerNumbers_20 dX0_lowerNumbers_6 ?_
      refine go_getN C (pc := 9) 1 (by decide) rfl rfl 0 (by decide) rfl rfl hi_X0_lowerNumbers_RX5 (host := "ThornCores") (by decide +kernel) dX0_lowerNumbers_9 ?_
      refine go_icmp_ge C (pc := 12) (tgt := 69) dX0_lowerNumbers_12 (by decide) (fun h12 => ?_) (fun h12 => ?_)
      · exact absurd h12 (cnt_nle hc hi (by omega))
      · refine go_aload0 C (pc := 15) dX0_lowerNumbers_15 ?_
        refine go_get C (pc := 16) 12 (by decide) rfl rfl 0 (by decide) rfl rfl hi_X0_lowerNumbers_RX0 lk_X0_lowerNumbers_20 dX0_lowerNumbers_16 ?_
        refine go_iload2 C (pc := 19) dX0_lowerNumbers_19 ?_
        refine go_ciV1 C (pc := 20) obj_1 (c_X5_hasPropN C.fl C.ok (mset μ 14 F) _ hc hT (by omega)) gX0_lowerNumbers_X5_hasProp rfl rfl yok_X5_hasProp ⟨rfl, rfl⟩ ⟨Nat.le_of_ble_eq_true rfl, Nat.le_of_ble_eq_true rfl⟩ (Nat.le_of_ble_eq_true rfl) ⟨Nat.zero_le _, Nat.zero_le _⟩ dX0_lowerNumbers_20 (fun r3 μ3 hc3 => ?_)
        obtain ⟨rfl, hm3⟩ := hc3
        replace hm3 := hm3.symm
        subst hm3
        refine go_top (y := b2i (bt (μ 1 1) i)) rfl ?_
        refine go_if_ne C (pc := 23) (tgt := 63) dX0_lowerNumbers_23 (by decide) (fun h23 => ?_) (fun h23 => ?_)
        · refine go_iinc2 C (pc := 63) (v := 1) dX0_lowerNumbers_63 (by decide) ?_
          refine go_goto C (pc := 66) (tgt := 4) dX0_lowerNumbers_66 (by decide) ?_
          exact go_drop3 (go_lv (by rw [nI_1, lowC, if_pos (bneg h23)]) (ih F (by rw [lowG, if_pos (bneg h23)]; exact hF)))
        · refine go_aload0 C (pc := 26) dX0_lowerNumbers_26 ?_
          refine go_iload2 C (pc := 27) dX0_lowerNumbers_27 ?_
          refine go_ciV1 C (pc := 28) obj_12 (c_X0_greatestHeld C.fl C.ok (mset μ 14 F) _ hc hT _ hF hi) gX0_lowerNumbers_X0_greatestHeld rfl rfl yok_X0_greatestHeld ⟨rfl, rfl⟩ ⟨Nat.le_of_ble_eq_true rfl, Nat.le_of_ble_eq_true rfl⟩ (Nat.le_of_ble_eq_true rfl) ⟨Nat.zero_le _, Nat.zero_le _⟩ dX0_lowerNumbers_28 (fun r5 μ5 hc5 => ?_)
          obtain ⟨rfl, hm5⟩ := hc5
          replace hm5 := hm5.symm
          subst hm5
          refine go_top (y := nI (ghN (μ 3) (lowG (μ 3) (μ 1 1) n g i) n i)) rfl ?_
          refine go_istore3 C (pc := 31) dX0_lowerNumbers_31 ?_
          refine go_iload1 C (pc := 32) dX0_lowerNumbers_32 ?_
          refine go_if_ne C (pc := 33) (tgt := 48) dX0_lowerNumbers_33 (by decide) (fun h33 => ?_) (fun h33 => ?_)
          · refine go_iconst C (pc := 48) (v := 1) (by decide) dX0_lowerNumbers_48 ?_
            refine go_goto C (pc := 49) (tgt := 53) dX0_lowerNumbers_49 (by decide) ?_
            refine go_istore1 C (pc := 53) dX0_lowerNumbers_53 ?_
            refine go_aload0 C (pc := 54) dX0_lowerNumbers_54 ?_
            refine go_get C (pc := 55) 12 (by decide) rfl rfl 1 (by decide) rfl rfl hi_X0_lowerNumbers_RX0 lk_X0_lowerNumbers_14 dX0_lowerNumbers_55 ?_
            refine go_iload2 C (pc := 58) dX0_lowerNumbers_58 ?_
            refine go_iload3 C (pc := 59) dX0_lowerNumbers_59 ?_
            refine go_cvV2 C (pc := 60) obj_13 (c_X3_putN C.fl C.ok _ 13 16 row_13 _ _  (by omega)) gX0_lowerNumbers_X3_put rfl rfl yok_X3_put ⟨rfl, rfl⟩ ⟨Nat.le_of_ble_eq_true rfl, Nat.le_of_ble_eq_true rfl⟩ (Nat.le_of_ble_eq_true rfl) ⟨Nat.zero_le _, Nat.zero_le _⟩ dX0_lowerNumbers_60 (fun μ7 hc7 => ?_)
            replace hc7 := hc7.symm
            subst hc7
            refine go_iinc2 C (pc := 63) (v := 1) dX0_lowerNumbers_63 (by decide) ?_
            refine go_goto C (pc := 66) (tgt := 4) dX0_lowerNumbers_66 (by decide) ?_
            exact go_drop3 (go_lv (by rw [nI_1, lowC, if_neg (by rw [bpos h23]; decide)]; rw [bneg h33]; rfl) (go_mem (by rw [mset_mset, mset_same]) (ih _ (by rw [lowG, if_neg (by rw [bpos h23]; decide)]; exact numOK_up hF hgh))))
          · refine go_iload3 C (pc := 36) dX0_lowerNumbers_36 ?_
            refine go_aload0 C (pc := 37) dX0_lowerNumbers_37 ?_
            refine go_get C (pc := 38) 12 (by decide) rfl rfl 1 (by decide) rfl rfl hi_X0_lowerNumbers_RX0 lk_X0_lowerNumbers_14 dX0_lowerNumbers_38 ?_
            refine go_iload2 C (pc := 41) dX0_lowerNumbers_41 ?_
            refine go_ciV1 C (pc := 42) obj_13 (c_X3_atN C.fl C.ok _ 13 16 row_13 _  (by omega)) gX0_lowerNumbers_X3_at rfl rfl yok_X3_at ⟨rfl, rfl⟩ ⟨Nat.le_of_ble_eq_true rfl, Nat.le_of_ble_eq_true rfl⟩ (Nat.le_of_ble_eq_true rfl) ⟨Nat.zero_le _, Nat.zero_le _⟩ dX0_lowerNumbers_42 (fun r8 μ8 hc8 => ?_)
            obtain ⟨rfl, hm8⟩ := hc8
            replace hm8 := hm8.symm
            subst hm8
            refine go_top (y := F i) rfl ?_
            refine go_icmp_eq C (pc := 45) (tgt := 52) dX0_lowerNumbers_45 (by decide) (fun h45 => ?_) (fun h45 => ?_)
            · refine go_iconst C (pc := 52) (v := 0) (by decide) dX0_lowerNumbers_52 ?_
              refine go_istore1 C (pc := 53) dX0_lowerNumbers_53 ?_
              refine go_aload0 C (pc := 54) dX0_lowerNumbers_54 ?_
              refine go_get C (pc := 55) 12 (by decide) rfl rfl 1 (by decide) rfl rfl hi_X0_lowerNumbers_RX0 lk_X0_lowerNumbers_14 dX0_lowerNumbers_55 ?_
              refine go_iload2 C (pc := 58) dX0_lowerNumbers_58 ?_
              refine go_iload3 C (pc := 59) dX0_lowerNumbers_59 ?_
              refine go_cvV2 C (pc := 60) obj_13 (c_X3_putN C.fl C.ok _ 13 16 row_13 _ _  (by omega)) gX0_lowerNumbers_X3_put rfl rfl yok_X3_put ⟨rfl, rfl⟩ ⟨Nat.le_of_ble_eq_true rfl, Nat.le_of_ble_eq_true rfl⟩ (Nat.le_of_ble_eq_true rfl) ⟨Nat.zero_le _, Nat.zero_le _⟩ dX0_lowerNumbers_60 (fun μ10 hc10 => ?_)
              replace hc10 := hc10.symm
              subst hc10
              refine go_iinc2 C (pc := 63) (v := 1) dX0_lowerNumbers_63 (by decide) ?_
              refine go_goto C (pc := 66) (tgt := 4) dX0_lowerNumbers_66 (by decide) ?_
              exact go_drop3 (go_lv (by rw [nI_1, lowC, if_neg (by rw [bpos h23]; decide)]; rw [bpos h33, decide_eq_true (nI_inj3 (by omega) (by have := (hF i hi).2; omega) (h45.trans (hF i hi).1))]; rfl) (go_mem (by rw [mset_mset, mset_same]) (ih _ (by rw [lowG, if_neg (by rw [bpos h23]; decide)]; exact numOK_up hF hgh))))
            · refine go_iconst C (pc := 48) (v := 1) (by decide) dX0_lowerNumbers_48 ?_
              refine go_goto C (pc := 49) (tgt := 53) dX0_lowerNumbers_49 (by decide) ?_
              refine go_istore1 C (pc := 53) dX0_lowerNumbers_53 ?_
              refine go_aload0 C (pc := 54) dX0_lowerNumbers_54 ?_
              refine go_get C (pc := 55) 12 (by decide) rfl rfl 1 (by decide) rfl rfl hi_X0_lowerNumbers_RX0 lk_X0_lowerNumbers_14 dX0_lowerNumbers_55 ?_
              refine go_iload2 C (pc := 58) dX0_lowerNumbers_58 ?_
              refine go_iload3 C (pc := 59) dX0_lowerNumbers_59 ?_
              refine go_cvV2 C (pc := 60) obj_13 (c_X3_putN C.fl C.ok _ 13 16 row_13 _ _  (by omega)) gX0_lowerNumbers_X3_put rfl rfl yok_X3_put ⟨rfl, rfl⟩ ⟨Nat.le_of_ble_eq_true rfl, Nat.le_of_ble_eq_true rfl⟩ (Nat.le_of_ble_eq_true rfl) ⟨Nat.zero_le _, Nat.zero_le _⟩ dX0_lowerNumbers_60 (fun μ11 hc11 => ?_)
              replace hc11 := hc11.symm
              subst hc11
              refine go_iinc2 C (pc := 63) (v := 1) dX0_lowerNumbers_63 (by decide) ?_
              refine go_goto C (pc := 66) (tgt := 4) dX0_lowerNumbers_66 (by decide) ?_
              exact go_drop3 (go_lv (by rw [nI_1, lowC, if_neg (by rw [bpos h23]; decide)]; rw [bpos h33, decide_eq_false (fun q => h45 (by rw [q]; exact (hF i hi).1.symm))]; rfl) (go_mem (by rw [mset_mset, mset_same]) (ih _ (by rw [lowG, if_neg (by rw [bpos h23]; decide)]; exact numOK_up hF hgh))))
  refine go_iconst C (pc := 0) (v := 0) (by decide) dX0_lowerNumbers_0 ?_
  refine go_istore1 C (pc := 1) dX0_lowerNumbers_1 ?_
  refine go_iconst C (pc := 2) (v := 0) (by decide) dX0_lowerNumbers_2 ?_
  refine go_istore2 C (pc := 3) dX0_lowerNumbers_3 ?_
  exact go_lv (by rw [nI_0]; rfl) (go_mem (mset_id μ 14).symm (key 0 (Nat.zero_le _) _ hg))

theorem num_next {F : Nat → Int32} {g : Nat → Nat} {i : Nat} {v : Int32} (h : numOK F g i) (hv : v = nI (g i)) (hg : g i ≤ 15) : numOK (upd F i v) g (i + 1) := fun q hq => by
  unfold upd
  split
  · next e => subst e; exact ⟨hv, hg⟩
  · exact h q (by omega)
theorem yok_X0_numberByRounds : yOK yX0_numberByRounds 1 := by unfold yOK; decide +kernel
theorem hi_X0_numberByRounds_RX0 : ∀ w ∈ wsX00, w ∈ wsX0_numberByRounds := by decide +kernel
theorem lk_X0_numberByRounds_14 : Cond.fieldLink RX0 14 "ThornCores$Cores" "numbers" "LThornCores$Row;" ∈ wsX0_numberByRounds := by decide +kernel
theorem lk_X0_numberByRounds_20 : Cond.fieldLink RX0 20 "ThornCores$Cores" "thicket" "LThornCores$Thicket;" ∈ wsX0_numberByRounds := by decide +kernel
theorem hi_X0_numberByRounds_RX5 : ∀ w ∈ wsX50, w ∈ wsX0_numberByRounds := by decide +kernel
set_option maxRecDepth 20000 in
set_option maxHeartbeats 4000000 in
theorem c_X0_numberByRounds {l : Launch} {D : va_G} {ad : Nat → Nat} {cI cL : ClassId} (hfl : l.flags = flags0) (hok : adOK ad) (μ : Mem) (j : Nat) {n : Nat} (hc : μ 1 0 = nI n) (hT : TV n (μ 1 1) (μ 3)) (hj : j < n) : CtI l D ad cI cL yX0_numberByRounds wsX0_numberByRounds (RM 5 112) [.ref (ad 12), .int (nI j)] μ (fun (r : Int32) (μ' : Mem) => r = nI (coreN (μ 3) (μ 1 1) n j) ∧ ∃ F, μ' = mset μ 14 F) := by
  refine ct_i (cc := cX0_numberByRounds) (maxL := 3) (own := RX0) .int hfl hok (by decide) rfl rfl rfl (Nat.le_of_ble_eq_true rfl) (fun p e s m below meth c C hr => ?_)
  refine go_lv (lv' := [some (.ref (ad 12)), some (.int (nI j)), none]) rfl ?_
  have hn := hT.1
  have key2 : ∀ i, i ≤ 241 → ∀ F g, numOK F g n → rdI (μ 3) (μ 1 1) n g → fb_sm g n + i ≤ 240 → Go p l e (headSpec wsX0_numberByRounds (RM 5 112)).room s m ([.ref (ad 12), .int (nI j)] : List Value).toArray below meth c 0 0 (MQ below (va_Qi (fun (r : Int32) (μ' : Mem) => r = nI (coreN (μ 3) (μ 1 1) n j) ∧ ∃ F, μ' = mset μ 14 F) (fun μ' t => PreW D ad cI cL μ' t) (AW ad)) ([.ref (ad 12), .int (nI j)] : List Value).toArray s 0 0 (AW ad)) (AW ad) D ad cI cL 3 53 [some (.ref (ad 12)), some (.int (nI j)), some (.int (nI i))] [] (mset μ 14 F) := by
    refine dn_ind ?_ ?_
    · intro F g _ _ h; omega
    · intro i hi ih F g hF hI hs
      refine go_iload2 C (pc := 53) dX0_numberByRounds_53 ?_
      refine go_sipush C (pc := 54) (v := 240) (by decide) dX0_numberByRounds_54 ?_
      refine go_icmp_gt C (pc := 57) (tgt := 76) dX0_numberByRounds_57 (by decide) (fun h57 => ?_) (fun h57 => ?_)
      · exact absurd h57 (by rw [show (240 : Int32) = nI 240 from by decide +kernel, nI_ltI (by decide) (by omega)]; omega)
      · refine go_aload0 C (pc := 60) dX0_numberByRounds_60 ?_
        refine go_ciV0 C (pc := 61) obj_12 (c_X0_lowerNumbers C.fl C.ok (mset μ 14 F) hc hT g hF) gX0_numberByRounds_X0_lowerNumbers rfl rfl yok_X0_lowerNumbers ⟨rfl, rfl⟩ ⟨Nat.le_of_ble_eq_true rfl, Nat.le_of_ble_eq_true rfl⟩ (Nat.le_of_ble_eq_true rfl) ⟨Nat.zero_le _, Nat.zero_le _⟩ dX0_numberByRounds_61 (fun r2 μ2 hc2 => ?_)
        obtain ⟨rfl, F1, hm1, hF1⟩ := hc2
        replace hF1 : numOK F1 (lowG (μ 3) (μ 1 1) n g n) n := hF1
        rw [hm1]
        refine go_top (y := b2i (lowC (μ 3) (μ 1 1) n g n)) rfl ?_
        refine go_if_ne C (pc := 64) (tgt := 70) dX0_numberByRounds_64 (by decide) (fun h64 => ?_) (fun h64 => ?_)
        · refine go_iinc2 C (pc := 70) (v := 1) dX0_numberByRounds_70 (by decide) ?_
          refine go_goto C (pc := 73) (tgt := 53) dX0_numberByRounds_73 (by decide) ?_
          exact go_lv (by rw [nI_1]) (go_mem (by rw [mset_mset]) (ih F1 _ hF1 (low_I hT hI n (Nat.le_refl _)) (by have := low_less (th := μ 3) (pr := μ 1 1) (g := g) n (Nat.le_refl _) (bneg h64); omega)))
        · refine go_goto C (pc := 67) (tgt := 76) dX0_numberByRounds_67 (by decide) ?_
          refine go_aload0 C (pc := 76) dX0_numberByRounds_76 ?_
          refine go_get C (pc := 77) 12 (by decide) rfl rfl 1 (by decide) rfl rfl hi_X0_numberByRounds_RX0 lk_X0_numberByRounds_14 dX0_numberByRounds_77 ?_
          refine go_iload1 C (pc := 80) dX0_numberByRounds_80 ?_
          refine go_ciV1 C (pc := 81) obj_13 (c_X3_atN C.fl C.ok _ 13 16 row_13 _  (by omega)) gX0_numberByRounds_X3_at rfl rfl yok_X3_at ⟨rfl, rfl⟩ ⟨Nat.le_of_ble_eq_true rfl, Nat.le_of_ble_eq_true rfl⟩ (Nat.le_of_ble_eq_true rfl) ⟨Nat.zero_le _, Nat.zero_le _⟩ dX0_numberByRounds_81 (fun r4 μ4 hc4 => ?_)
          have hsame := low_same (th := μ 3) (pr := μ 1 1) (g := g) n (bpos h64)
          obtain ⟨rfl, hm4⟩ := hc4
          rw [hm4]
          exact go_iret C hr dX0_numberByRounds_84 (⟨by show F1 j = _; rw [(hF1 j hj).1, hsame.1, rd_end hT hI hsame.2 hj], F1, by rw [mset_mset]⟩)
  have key : ∀ i, i ≤ n → ∀ F, numOK F (g0N (μ 3) (μ 1 1)) i → Go p l e (headSpec wsX0_numberByRounds (RM 5 112)).room s m ([.ref (ad 12), .int (nI j)] : List Value).toArray below meth c 0 0 (MQ below (va_Qi (fun (r : Int32) (μ' : Mem) => r = nI (coreN (μ 3) (μ 1 1) n j) ∧ ∃ F, μ' = mset μ 14 F) (fun μ' t => PreW D ad cI cL μ' t) (AW ad)) ([.ref (ad 12), .int (nI j)] : List Value).toArray s 0 0 (AW ad)) (AW ad) D ad cI cL 3 2 [some (.ref (ad 12)), some (.int (nI j)), some (.int (nI i))] [] (mset μ 14 F) := by
    refine dn_ind ?_ ?_
    · intro F hF
      refine go_iload2 C (pc := 2) dX0_numberByRounds_2 ?_
      refine go_aload0 C (pc := 3) dX0_numberByRounds_3 ?_
      refine go_get C (pc := 4) 12 (by decide) rfl rfl 0 (by decide) rfl rfl hi_X0_numberByRounds_RX0 lk_X0_numberByRounds_20 dX0_numberByRounds_4 ?_
      refine go_getN C (pc := 7) 1 (by decide) rfl rfl 0 (by decide) rfl rfl hi_X0_numberByRounds_RX5 (host := "ThornCores") (by decide +kernel) dX0_numberByRounds_7 ?_
      refine go_icmp_ge C (pc := 10) (tgt := 51) dX0_numberByRounds_10 (by decide) (fun h10 => ?_) (fun h10 => ?_)
      · refine go_iconst C (pc := 51) (v := 0) (by decide) dX0_numberByRounds_51 ?_
        refine go_istore2 C (pc := 52) dX0_numberByRounds_52 ?_
        exact go_lv (by rw [nI_0]) (key2 0 (Nat.zero_le _) F _ hF (rd_0 hT) (by have := sum_0 hT; omega))
      · exact absurd (cnt_le hc (Nat.le_refl _) (by omega)) h10
    · intro i hi ih F hF
      refine go_iload2 C (pc := 2) dX0_numberByRounds_2 ?_
      refine go_aload0 C (pc := 3) dX0_numberByRounds_3 ?_
      refine go_get C (pc := 4) 12 (by decide) rfl rfl 0 (by decide) rfl rfl hi_X0_numberByRounds_RX0 lk_X0_numberByRounds_20 dX0_numberByRounds_4 ?_
      refine go_getN C (pc := 7) 1 (by decide) rfl rfl 0 (by decide) rfl rfl hi_X0_numberByRounds_RX5 (host := "ThornCores") (by decide +kernel) dX0_numberByRounds_7 ?_
      refine go_icmp_ge C (pc := 10) (tgt := 51) dX0_numberByRounds_10 (by decide) (fun h10 => ?_) (fun h10 => ?_)
      · exact absurd h10 (cnt_nle hc hi (by omega))
      · refine go_aload0 C (pc := 13) dX0_numberByRounds_13 ?_
        refine go_get C (pc := 14) 12 (by decide) rfl rfl 1 (by decide) rfl rfl hi_X0_numberByRounds_RX0 lk_X0_numberByRounds_14 dX0_numberByRounds_14 ?_
        refine go_iload2 C (pc := 17) dX0_numberByRounds_17 ?_
        refine go_aload0 C (pc := 18) dX0_numberByRounds_18 ?_
        refine go_get C (pc := 19) 12 (by decide) rfl rfl 0 (by decide) rfl rfl hi_X0_numberByRounds_RX0 lk_X0_numberByRounds_20 dX0_numberByRounds_19 ?_
        refine go_iload2 C (pc := 22) dX0_numberByRounds_22 ?_
        refine go_ciV1 C (pc := 23) obj_1 (c_X5_hasPropN C.fl C.ok (mset μ 14 F) _ hc hT (by omega)) gX0_numberByRounds_X5_hasProp rfl rfl yok_X5_hasProp ⟨rfl, rfl⟩ ⟨Nat.le_of_ble_eq_true rfl, Nat.le_of_ble_eq_true rfl⟩ (Nat.le_of_ble_eq_true rfl) ⟨Nat.zero_le _, Nat.zero_le _⟩ dX0_numberByRounds_23 (fun r7 μ7 hc7 => ?_)
        obtain ⟨rfl, hm7⟩ := hc7
        replace hm7 := hm7.symm
        subst hm7
        refine go_top (y := b2i (bt (μ 1 1) i)) rfl ?_
        refine go_if_eq C (pc := 26) (tgt := 34) dX0_numberByRounds_26 (by decide) (fun h26 => ?_) (fun h26 => ?_)
        · refine go_aload0 C (pc := 34) dX0_numberByRounds_34 ?_
          refine go_get C (pc := 35) 12 (by decide) rfl rfl 0 (by decide) rfl rfl hi_X0_numberByRounds_RX0 lk_X0_numberByRounds_20 dX0_numberByRounds_35 ?_
          refine go_iload2 C (pc := 38) dX0_numberByRounds_38 ?_
          refine go_ciV1 C (pc := 39) obj_1 (c_X5_heldN C.fl C.ok (mset μ 14 F) _ (by omega) (hT.st (by omega))) gX0_numberByRounds_X5_held rfl rfl yok_X5_held ⟨rfl, rfl⟩ ⟨Nat.le_of_ble_eq_true rfl, Nat.le_of_ble_eq_true rfl⟩ (Nat.le_of_ble_eq_true rfl) ⟨Nat.zero_le _, Nat.zero_le _⟩ dX0_numberByRounds_39 (fun r9 μ9 hc9 => ?_)
          obtain ⟨rfl, hm9⟩ := hc9
          replace hm9 := hm9.symm
          subst hm9
          refine go_top (y := nI (ct (μ 3 i))) rfl ?_
          refine go_cvV2 C (pc := 42) obj_13 (c_X3_putN C.fl C.ok _ 13 16 row_13 _ _  (by omega)) gX0_numberByRounds_X3_put rfl rfl yok_X3_put ⟨rfl, rfl⟩ ⟨Nat.le_of_ble_eq_true rfl, Nat.le_of_ble_eq_true rfl⟩ (Nat.le_of_ble_eq_true rfl) ⟨Nat.zero_le _, Nat.zero_le _⟩ dX0_numberByRounds_42 (fun μ10 hc10 => ?_)
          replace hc10 := hc10.symm
          subst hc10
          refine go_iinc2 C (pc := 45) (v := 1) dX0_numberByRounds_45 (by decide) ?_
          refine go_goto C (pc := 48) (tgt := 2) dX0_numberByRounds_48 (by decide) ?_
          exact go_lv (by rw [nI_1]) (go_mem (by rw [mset_mset, mset_same]) (ih _ (num_next hF (by unfold g0N; rw [if_neg (by rw [bpos h26]; decide)]; try (first | rfl | decide)) ((rd_0 hT).1 i hi).2)))
        · refine go_bipush C (pc := 29) (v := 15) (by decide) dX0_numberByRounds_29 ?_
          refine go_goto C (pc := 31) (tgt := 42) dX0_numberByRounds_31 (by decide) ?_
          refine go_cvV2 C (pc := 42) obj_13 (c_X3_putN C.fl C.ok _ 13 16 row_13 _ _  (by omega)) gX0_numberByRounds_X3_put rfl rfl yok_X3_put ⟨rfl, rfl⟩ ⟨Nat.le_of_ble_eq_true rfl, Nat.le_of_ble_eq_true rfl⟩ (Nat.le_of_ble_eq_true rfl) ⟨Nat.zero_le _, Nat.zero_le _⟩ dX0_numberByRounds_42 (fun μ11 hc11 => ?_)
          replace hc11 := hc11.symm
          subst hc11
          refine go_iinc2 C (pc := 45) (v := 1) dX0_numberByRounds_45 (by decide) ?_
          refine go_goto C (pc := 48) (tgt := 2) dX0_numberByRounds_48 (by decide) ?_
          exact go_lv (by rw [nI_1]) (go_mem (by rw [mset_mset, mset_same]) (ih _ (num_next hF (by unfold g0N; rw [if_pos (bneg h26)]; try (first | rfl | decide)) ((rd_0 hT).1 i hi).2)))
  refine go_iconst C (pc := 0) (v := 0) (by decide) dX0_numberByRounds_0 ?_
  refine go_istore2 C (pc := 1) dX0_numberByRounds_1 ?_
  exact go_lv (by rw [nI_0]) (go_mem (mset_id μ 14).symm (key 0 (Nat.zero_le _) _ (fun q h => absurd h (Nat.not_lt_zero _))))

