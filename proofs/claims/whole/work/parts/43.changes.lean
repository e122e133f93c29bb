/-! ===== ThornCores$Text: making the changes ===== -/
theorem yok_X4_changeLength : yOK yX4_changeLength 1 := by unfold yOK; decide +kernel
theorem hi_X4_changeLength_RX4 : ∀ w ∈ wsX40, w ∈ wsX4_changeLength := by decide +kernel
theorem lk_X4_changeLength_14 : Cond.fieldLink RX4 14 "ThornCores$Text" "characters" "LThornCores$Row;" ∈ wsX4_changeLength := by decide +kernel
set_option maxRecDepth 20000 in
set_option maxHeartbeats 4000000 in
theorem c_X4_changeLength {l : Launch} {D : va_G} {ad : Nat → Nat} {cI cL : ClassId} (hfl : l.flags = flags0) (hok : adOK ad) (μ : Mem) (i : Nat) (hi : i < 60) : CtI l D ad cI cL yX4_changeLength wsX4_changeLength (RM 1 21) [.ref (ad 4), .int (nI i)] μ (fun (r : Int32) (μ' : Mem) => r = nI (clen (μ 6) i) ∧ μ' = μ) := by
  refine ct_i (cc := cX4_changeLength) (maxL := 3) (own := RX4) .int hfl hok (by decide) rfl rfl rfl (Nat.le_of_ble_eq_true rfl) (fun p e s m below meth c C hr => ?_)
  refine go_lv (lv' := [some (.ref (ad 4)), some (.int (nI i)), none]) rfl ?_
  refine go_aload0 C (pc := 0) dX4_changeLength_0 ?_
  refine go_get C (pc := 1) 4 (by decide) rfl rfl 0 (by decide) rfl rfl hi_X4_changeLength_RX4 lk_X4_changeLength_14 dX4_changeLength_1 ?_
  refine go_iload1 C (pc := 4) dX4_changeLength_4 ?_
  refine go_ciV1 C (pc := 5) obj_5 (c_X3_atN C.fl C.ok _ 5 60 row_5 _  hi) gX4_changeLength_X3_at rfl rfl yok_X3_at ⟨rfl, rfl⟩ ⟨Nat.le_of_ble_eq_true rfl, Nat.le_of_ble_eq_true rfl⟩ (Nat.le_of_ble_eq_true rfl) ⟨Nat.zero_le _, Nat.zero_le _⟩ dX4_changeLength_5 (fun r1 μ1 hc1 => ?_)
  obtain ⟨rfl, hm1⟩ := hc1
  replace hm1 := hm1.symm
  subst hm1
  refine go_top (y := μ 6 i) rfl ?_
  refine go_istore2 C (pc := 8) dX4_changeLength_8 ?_
  refine go_iload2 C (pc := 9) dX4_changeLength_9 ?_
  refine go_bipush C (pc := 10) (v := 43) (by decide) dX4_changeLength_10 ?_
  refine go_icmp_ne C (pc := 12) (tgt := 17) dX4_changeLength_12 (by decide) (fun h12 => ?_) (fun h12 => ?_)
  · refine go_iload2 C (pc := 17) dX4_changeLength_17 ?_
    refine go_bipush C (pc := 18) (v := 33) (by decide) dX4_changeLength_18 ?_
    refine go_icmp_ne C (pc := 20) (tgt := 27) dX4_changeLength_20 (by decide) (fun h20 => ?_) (fun h20 => ?_)
    · refine go_iconst C (pc := 27) (v := 3) (by decide) dX4_changeLength_27 ?_
      exact go_iret C hr dX4_changeLength_28 ⟨by rw [clen, if_neg h12, if_neg h20]; decide, rfl⟩
    · refine go_iconst C (pc := 23) (v := 2) (by decide) dX4_changeLength_23 ?_
      refine go_goto C (pc := 24) (tgt := 28) dX4_changeLength_24 (by decide) ?_
      exact go_iret C hr dX4_changeLength_28 ⟨by rw [clen, if_neg h12, if_pos h20]; decide, rfl⟩
  · refine go_iconst C (pc := 15) (v := 1) (by decide) dX4_changeLength_15 ?_
    exact go_iret C hr dX4_changeLength_16 ⟨by rw [clen, if_pos h12]; decide, rfl⟩

theorem yok_X4_makeChange : yOK yX4_makeChange 2 := by unfold yOK; decide +kernel
theorem hi_X4_makeChange_RX4 : ∀ w ∈ wsX40, w ∈ wsX4_makeChange := by decide +kernel
theorem lk_X4_makeChange_14 : Cond.fieldLink RX4 14 "ThornCores$Text" "characters" "LThornCores$Row;" ∈ wsX4_makeChange := by decide +kernel
set_option maxRecDepth 20000 in
set_option maxHeartbeats 4000000 in
theorem c_X4_makeChange {l : Launch} {D : va_G} {ad : Nat → Nat} {cI cL : ClassId} (hfl : l.flags = flags0) (hok : adOK ad) (μ : Mem) (i : Nat) (σ : St) (hS : CSm μ σ) (hT : TVs σ) (ho : okC (μ 6) i) : CtI l D ad cI cL yX4_makeChange wsX4_makeChange (RM 3 65) [.ref (ad 4), .ref (ad 1), .int (nI i)] μ (fun (r : Int32) (μ' : Mem) => r = b2i (chgS (μ 6) i σ).1 ∧ ∃ f g, μ' = msT μ f g ∧ CSm μ' (chgS (μ 6) i σ).2) := by
  refine ct_i (cc := cX4_makeChange) (maxL := 4) (own := RX4) .boolean hfl hok (by decide) rfl rfl rfl (Nat.le_of_ble_eq_true rfl) (fun p e s m below meth c C hr => ?_)
  refine go_lv (lv' := [some (.ref (ad 4)), some (.ref (ad 1)), some (.int (nI i)), none]) rfl ?_
  refine go_aload0 C (pc := 0) dX4_makeChange_0 ?_
  refine go_get C (pc := 1) 4 (by decide) rfl rfl 0 (by decide) rfl rfl hi_X4_makeChange_RX4 lk_X4_makeChange_14 dX4_makeChange_1 ?_
  refine go_iload2 C (pc := 4) dX4_makeChange_4 ?_
  refine go_ciV1 C (pc := 5) obj_5 (c_X3_atN C.fl C.ok _ 5 60 row_5 _  ho.1) gX4_makeChange_X3_at rfl rfl yok_X3_at ⟨rfl, rfl⟩ ⟨Nat.le_of_ble_eq_true rfl, Nat.le_of_ble_eq_true rfl⟩ (Nat.le_of_ble_eq_true rfl) ⟨Nat.zero_le _, Nat.zero_le _⟩ dX4_makeChange_5 (fun r1 μ1 hc1 => ?_)
  obtain ⟨rfl, hm1⟩ := hc1
  replace hm1 := hm1.symm
  subst hm1
  refine go_top (y := μ 6 i) rfl ?_
  refine go_istore3 C (pc := 8) dX4_makeChange_8 ?_
  refine go_iload3 C (pc := 9) dX4_makeChange_9 ?_
  refine go_bipush C (pc := 10) (v := 43) (by decide) dX4_makeChange_10 ?_
  refine go_icmp_ne C (pc := 12) (tgt := 20) dX4_makeChange_12 (by decide) (fun h12 => ?_) (fun h12 => ?_)
  · refine go_iload3 C (pc := 20) dX4_makeChange_20 ?_
    refine go_bipush C (pc := 21) (v := 33) (by decide) dX4_makeChange_21 ?_
    refine go_icmp_ne C (pc := 23) (tgt := 38) dX4_makeChange_23 (by decide) (fun h23 => ?_) (fun h23 => ?_)
    · obtain ⟨q1, q2, q3⟩ := ho.2.2 h12 h23
      have nmA := nm_ok q2
      have nmB := nm_ok q3
      refine go_aload0 C (pc := 38) dX4_makeChange_38 ?_
      refine go_get C (pc := 39) 4 (by decide) rfl rfl 0 (by decide) rfl rfl hi_X4_makeChange_RX4 lk_X4_makeChange_14 dX4_makeChange_39 ?_
      refine go_iload2 C (pc := 42) dX4_makeChange_42 ?_
      refine go_iconst C (pc := 43) (v := 1) (by decide) dX4_makeChange_43 ?_
      refine go_iadd C (pc := 44) dX4_makeChange_44 ?_
      refine go_top (y := nI (i + 1)) (nI_1 i) ?_
      refine go_ciV1 C (pc := 45) obj_5 (c_X3_atN C.fl C.ok _ 5 60 row_5 _  (by omega)) gX4_makeChange_X3_at rfl rfl yok_X3_at ⟨rfl, rfl⟩ ⟨Nat.le_of_ble_eq_true rfl, Nat.le_of_ble_eq_true rfl⟩ (Nat.le_of_ble_eq_true rfl) ⟨Nat.zero_le _, Nat.zero_le _⟩ dX4_makeChange_45 (fun r4 μ4 hc4 => ?_)
      obtain ⟨rfl, hm4⟩ := hc4
      replace hm4 := hm4.symm
      subst hm4
      refine go_top (y := μ 6 (i + 1)) rfl ?_
      refine go_bipush C (pc := 48) (v := 45) (by decide) dX4_makeChange_48 ?_
      refine go_icmp_ne C (pc := 50) (tgt := 70) dX4_makeChange_50 (by decide) (fun h50 => ?_) (fun h50 => ?_)
      · refine go_aload1 C (pc := 70) dX4_makeChange_70 ?_
        refine go_aload0 C (pc := 71) dX4_makeChange_71 ?_
        refine go_iload2 C (pc := 72) dX4_makeChange_72 ?_
        refine go_ciV1 C (pc := 73) obj_4 (c_X4_named C.fl C.ok _ _ (by omega)) gX4_makeChange_X4_named rfl rfl yok_X4_named ⟨rfl, rfl⟩ ⟨Nat.le_of_ble_eq_true rfl, Nat.le_of_ble_eq_true rfl⟩ (Nat.le_of_ble_eq_true rfl) ⟨Nat.zero_le _, Nat.zero_le _⟩ dX4_makeChange_73 (fun r6 μ6 hc6 => ?_)
        obtain ⟨rfl, hm6⟩ := hc6
        replace hm6 := hm6.symm
        subst hm6
        refine go_top (y := nI (nmN (μ 6) i)) nmA.1 ?_
        refine go_aload0 C (pc := 76) dX4_makeChange_76 ?_
        refine go_iload2 C (pc := 77) dX4_makeChange_77 ?_
        refine go_iconst C (pc := 78) (v := 2) (by decide) dX4_makeChange_78 ?_
        refine go_iadd C (pc := 79) dX4_makeChange_79 ?_
        refine go_top (y := nI (i + 2)) (nI_2 i) ?_
        refine go_ciV1 C (pc := 80) obj_4 (c_X4_named C.fl C.ok _ _ (by omega)) gX4_makeChange_X4_named rfl rfl yok_X4_named ⟨rfl, rfl⟩ ⟨Nat.le_of_ble_eq_true rfl, Nat.le_of_ble_eq_true rfl⟩ (Nat.le_of_ble_eq_true rfl) ⟨Nat.zero_le _, Nat.zero_le _⟩ dX4_makeChange_80 (fun r7 μ7 hc7 => ?_)
        obtain ⟨rfl, hm7⟩ := hc7
        replace hm7 := hm7.symm
        subst hm7
        refine go_top (y := nI (nmN (μ 6) (i + 2))) nmB.1 ?_
        refine go_ciV2 C (pc := 83) obj_1 (c_X5_untie C.fl C.ok _ _ _ ) gX4_makeChange_X5_untie rfl rfl yok_X5_untie ⟨rfl, rfl⟩ ⟨Nat.le_of_ble_eq_true rfl, Nat.le_of_ble_eq_true rfl⟩ (Nat.le_of_ble_eq_true rfl) ⟨Nat.zero_le _, Nat.zero_le _⟩ dX4_makeChange_83 (fun r8 μ8 hc8 => ?_)
        obtain ⟨rfl, rfl⟩ := hc8
        obtain ⟨e1, f, g, e2, e3⟩ := CS_unt hS hT nmA.2.1 nmB.2.1
        refine go_zret C hr dX4_makeChange_86 (b2i_01 _) ⟨by rw [e1, chgS, if_neg h12, if_neg h23, if_neg h50], f, g, e2, ?_⟩
        rw [chgS, if_neg h12, if_neg h23, if_neg h50, e2]; exact e3
      · refine go_aload1 C (pc := 53) dX4_makeChange_53 ?_
        refine go_aload0 C (pc := 54) dX4_makeChange_54 ?_
        refine go_iload2 C (pc := 55) dX4_makeChange_55 ?_
        refine go_ciV1 C (pc := 56) obj_4 (c_X4_named C.fl C.ok _ _ (by omega)) gX4_makeChange_X4_named rfl rfl yok_X4_named ⟨rfl, rfl⟩ ⟨Nat.le_of_ble_eq_true rfl, Nat.le_of_ble_eq_true rfl⟩ (Nat.le_of_ble_eq_true rfl) ⟨Nat.zero_le _, Nat.zero_le _⟩ dX4_makeChange_56 (fun r9 μ9 hc9 => ?_)
        obtain ⟨rfl, hm9⟩ := hc9
        replace hm9 := hm9.symm
        subst hm9
        refine go_top (y := nI (nmN (μ 6) i)) nmA.1 ?_
        refine go_aload0 C (pc := 59) dX4_makeChange_59 ?_
        refine go_iload2 C (pc := 60) dX4_makeChange_60 ?_
        refine go_iconst C (pc := 61) (v := 2) (by decide) dX4_makeChange_61 ?_
        refine go_iadd C (pc := 62) dX4_makeChange_62 ?_
        refine go_top (y := nI (i + 2)) (nI_2 i) ?_
        refine go_ciV1 C (pc := 63) obj_4 (c_X4_named C.fl C.ok _ _ (by omega)) gX4_makeChange_X4_named rfl rfl yok_X4_named ⟨rfl, rfl⟩ ⟨Nat.le_of_ble_eq_true rfl, Nat.le_of_ble_eq_true rfl⟩ (Nat.le_of_ble_eq_true rfl) ⟨Nat.zero_le _, Nat.zero_le _⟩ dX4_makeChange_63 (fun r10 μ10 hc10 => ?_)
        obtain ⟨rfl, hm10⟩ := hc10
        replace hm10 := hm10.symm
        subst hm10
        refine go_top (y := nI (nmN (μ 6) (i + 2))) nmB.1 ?_
        refine go_ciV2 C (pc := 66) obj_1 (c_X5_tie C.fl C.ok _ _ _ ) gX4_makeChange_X5_tie rfl rfl yok_X5_tie ⟨rfl, rfl⟩ ⟨Nat.le_of_ble_eq_true rfl, Nat.le_of_ble_eq_true rfl⟩ (Nat.le_of_ble_eq_true rfl) ⟨Nat.zero_le _, Nat.zero_le _⟩ dX4_makeChange_66 (fun r11 μ11 hc11 => ?_)
        obtain ⟨rfl, rfl⟩ := hc11
        obtain ⟨f, g, e2, e3⟩ := CS_tie hS hT nmA.2.1 nmB.2.1
        refine go_zret C hr dX4_makeChange_69 (b2i_01 _) ⟨by rw [tieB_nI hS hT nmA.2.1 nmB.2.1, chgS, if_neg h12, if_neg h23, if_pos h50], f, g, e2, ?_⟩
        rw [chgS, if_neg h12, if_neg h23, if_pos h50, e2]; exact e3
    · obtain ⟨q1, q2⟩ := ho.2.1 h12 h23
      have nmB := nm_ok q2
      refine go_aload1 C (pc := 26) dX4_makeChange_26 ?_
      refine go_aload0 C (pc := 27) dX4_makeChange_27 ?_
      refine go_iload2 C (pc := 28) dX4_makeChange_28 ?_
      refine go_iconst C (pc := 29) (v := 1) (by decide) dX4_makeChange_29 ?_
      refine go_iadd C (pc := 30) dX4_makeChange_30 ?_
      refine go_top (y := nI (i + 1)) (nI_1 i) ?_
      refine go_ciV1 C (pc := 31) obj_4 (c_X4_named C.fl C.ok _ _ (by omega)) gX4_makeChange_X4_named rfl rfl yok_X4_named ⟨rfl, rfl⟩ ⟨Nat.le_of_ble_eq_true rfl, Nat.le_of_ble_eq_true rfl⟩ (Nat.le_of_ble_eq_true rfl) ⟨Nat.zero_le _, Nat.zero_le _⟩ dX4_makeChange_31 (fun r12 μ12 hc12 => ?_)
      obtain ⟨rfl, hm12⟩ := hc12
      replace hm12 := hm12.symm
      subst hm12
      refine go_top (y := nI (nmN (μ 6) (i + 1))) nmB.1 ?_
      refine go_ciV1 C (pc := 34) obj_1 (c_X5_turnProp C.fl C.ok _ _ ) gX4_makeChange_X5_turnProp rfl rfl yok_X5_turnProp ⟨rfl, rfl⟩ ⟨Nat.le_of_ble_eq_true rfl, Nat.le_of_ble_eq_true rfl⟩ (Nat.le_of_ble_eq_true rfl) ⟨Nat.zero_le _, Nat.zero_le _⟩ dX4_makeChange_34 (fun r13 μ13 hc13 => ?_)
      obtain ⟨rfl, rfl⟩ := hc13
      obtain ⟨e1, f, g, e2, e3⟩ := CS_turn hS hT nmB.2.1
      refine go_zret C hr dX4_makeChange_37 (b2i_01 _) ⟨by rw [e1, chgS, if_neg h12, if_pos h23], f, g, e2, ?_⟩
      rw [chgS, if_neg h12, if_pos h23, e2]; exact e3
  · refine go_aload1 C (pc := 15) dX4_makeChange_15 ?_
    refine go_ciV0 C (pc := 16) obj_1 (c_X5_grow C.fl C.ok _ ) gX4_makeChange_X5_grow rfl rfl yok_X5_grow ⟨rfl, rfl⟩ ⟨Nat.le_of_ble_eq_true rfl, Nat.le_of_ble_eq_true rfl⟩ (Nat.le_of_ble_eq_true rfl) ⟨Nat.zero_le _, Nat.zero_le _⟩ dX4_makeChange_16 (fun r14 μ14 hc14 => ?_)
    obtain ⟨rfl, rfl⟩ := hc14
    obtain ⟨e1, f, g, e2, e3⟩ := CS_grow hS hT
    refine go_zret C hr dX4_makeChange_19 (b2i_01 _) ⟨by rw [e1, chgS, if_pos h12], f, g, e2, ?_⟩
    rw [chgS, if_pos h12, e2]; exact e3

theorem run_stop {c : Nat → Int32} {w i : Nat} (h : w ≤ i) : ∀ f x, runC c w f i x = x
  | 0, _ => rfl
  | f + 1, x => by rw [runC, if_neg (by omega)]
theorem run_step {c : Nat → Int32} {w i f : Nat} {x : Nat × St} (h : i < w) : runC c w (f + 1) i x = runC c w f (i + clen c i + 1) (x.1 + (if (chgS c i x.2).1 = true then 1 else 0), (chgS c i x.2).2) := by rw [runC, if_pos h]
theorem clen_pos (c : Nat → Int32) (i : Nat) : 1 ≤ clen c i := by unfold clen; repeat' split
                                                                  all_goals decide
theorem yok_X4_makeChanges : yOK yX4_makeChanges 1 := by unfold yOK; decide +kernel
theorem hi_X4_makeChanges_RX4 : ∀ w ∈ wsX40, w ∈ wsX4_makeChanges := by decide +kernel
theorem lk_X4_makeChanges_20 : Cond.fieldLink RX4 20 "ThornCores$Text" "length" "I" ∈ wsX4_makeChanges := by decide +kernel
set_option maxRecDepth 20000 in
set_option maxHeartbeats 4000000 in
theorem c_X4_makeChanges {l : Launch} {D : va_G} {ad : Nat → Nat} {cI cL : ClassId} (hfl : l.flags = flags0) (hok : adOK ad) (μ : Mem) (σ : St) (w : Nat) (hl : μ 4 1 = nI w) (hw : w ≤ 60) (hv : dfa (μ 6) w = 4) (hS : CSm μ σ) (hT : TVs σ) : CtI l D ad cI cL yX4_makeChanges wsX4_makeChanges (RM 4 88) [.ref (ad 4), .ref (ad 1)] μ (fun (r : Int32) (μ' : Mem) => r = nI (runC (μ 6) w (w + 1) 0 (0, σ)).1 ∧ ∃ f g, μ' = msT μ f g ∧ CSm μ' (runC (μ 6) w (w + 1) 0 (0, σ)).2) := by
  refine ct_i (cc := cX4_makeChanges) (maxL := 4) (own := RX4) .int hfl hok (by decide) rfl rfl rfl (Nat.le_of_ble_eq_true rfl) (fun p e s m below meth c C hr => ?_)
  refine go_lv (lv' := [some (.ref (ad 4)), some (.ref (ad 1)), none, none]) rfl ?_
  have key : ∀ f, ∀ i x F1 G1, w + 1 ≤ i + f → i ≤ 61 → (i < w → dfa (μ 6) i = 0) → TVs x.2 → CSm (msT μ F1 G1) x.2 → runC (μ 6) w (w + 1) 0 (0, σ) = runC (μ 6) w f i x → Go p l e (headSpec wsX4_makeChanges (RM 4 88)).room s m ([.ref (ad 4), .ref (ad 1)] : List Value).toArray below meth c 0 0 (MQ below (va_Qi (fun (r : Int32) (μ' : Mem) => r = nI (runC (μ 6) w (w + 1) 0 (0, σ)).1 ∧ ∃ f g, μ' = msT μ f g ∧ CSm μ' (runC (μ 6) w (w + 1) 0 (0, σ)).2) (fun μ' t => PreW D ad cI cL μ' t) (AW ad)) ([.ref (ad 4), .ref (ad 1)] : List Value).toArray s 0 0 (AW ad)) (AW ad) D ad cI cL 4 4 [some (.ref (ad 4)), some (.ref (ad 1)), some (.int (nI x.1)), some (.int (nI i))] [] (msT μ F1 G1) := by
    intro f
    induction f with
    | zero =>
      intro i x F1 G1 hf hi _ _ hS1 hrun
      refine go_iload3 C (pc := 4) dX4_makeChanges_4 ?_
      refine go_aload0 C (pc := 5) dX4_makeChanges_5 ?_
      refine go_get C (pc := 6) 4 (by decide) rfl rfl 1 (by decide) rfl rfl hi_X4_makeChanges_RX4 lk_X4_makeChanges_20 dX4_makeChanges_6 ?_
      refine go_icmp_ge C (pc := 9) (tgt := 37) dX4_makeChanges_9 (by decide) (fun h9 => ?_) (fun h9 => ?_)
      · refine go_iload2 C (pc := 37) dX4_makeChanges_37 ?_
        exact go_iret C hr dX4_makeChanges_38 ⟨by rw [hrun, run_stop (show w ≤ i by omega)], F1, G1, rfl, by rw [hrun, run_stop (show w ≤ i by omega)]; exact hS1⟩
      · exact absurd (cnt_le hl (show w ≤ i by omega) (by omega)) h9
    | succ f ih =>
      intro i x F1 G1 hf hi h0 hT1 hS1 hrun
      by_cases hlt : i < w
      · obtain ⟨ho, g1, g2, g3, -⟩ := chg_ok hw hv hlt (h0 hlt)
        have hcp := clen_pos (μ 6) i
        rw [run_step (f := f) (x := x) hlt] at hrun
        refine go_iload3 C (pc := 4) dX4_makeChanges_4 ?_
        refine go_aload0 C (pc := 5) dX4_makeChanges_5 ?_
        refine go_get C (pc := 6) 4 (by decide) rfl rfl 1 (by decide) rfl rfl hi_X4_makeChanges_RX4 lk_X4_makeChanges_20 dX4_makeChanges_6 ?_
        refine go_icmp_ge C (pc := 9) (tgt := 37) dX4_makeChanges_9 (by decide) (fun h9 => ?_) (fun h9 => ?_)
        · exact absurd h9 (cnt_nle hl hlt (by omega))
        · refine go_aload0 C (pc := 12) dX4_makeChanges_12 ?_
          refine go_aload1 C (pc := 13) dX4_makeChanges_13 ?_
          refine go_iload3 C (pc := 14) dX4_makeChanges_14 ?_
          refine go_ciV2 C (pc := 15) obj_4 (c_X4_makeChange C.fl C.ok (msT μ F1 G1) _ x.2 hS1 hT1 ho) gX4_makeChanges_X4_makeChange rfl rfl yok_X4_makeChange ⟨rfl, rfl⟩ ⟨Nat.le_of_ble_eq_true rfl, Nat.le_of_ble_eq_true rfl⟩ (Nat.le_of_ble_eq_true rfl) ⟨Nat.zero_le _, Nat.zero_le _⟩ dX4_makeChanges_15 (fun r3 μ3 hc3 => ?_)
          obtain ⟨rfl, F2, G2, rfl, hS2⟩ := hc3
          replace hS2 : CSm (msT μ F2 G2) (chgS (μ 6) i x.2).2 := by rw [← msT_msT μ F1 G1 F2 G2]; exact hS2
          refine go_top (y := b2i (chgS (μ 6) i x.2).1) rfl ?_
          refine go_if_eq C (pc := 18) (tgt := 24) dX4_makeChanges_18 (by decide) (fun h18 => ?_) (fun h18 => ?_)
          · refine go_iload3 C (pc := 24) dX4_makeChanges_24 ?_
            refine go_aload0 C (pc := 25) dX4_makeChanges_25 ?_
            refine go_iload3 C (pc := 26) dX4_makeChanges_26 ?_
            refine go_ciV1 C (pc := 27) obj_4 (c_X4_changeLength C.fl C.ok _ _ ho.1) gX4_makeChanges_X4_changeLength rfl rfl yok_X4_changeLength ⟨rfl, rfl⟩ ⟨Nat.le_of_ble_eq_true rfl, Nat.le_of_ble_eq_true rfl⟩ (Nat.le_of_ble_eq_true rfl) ⟨Nat.zero_le _, Nat.zero_le _⟩ dX4_makeChanges_27 (fun r5 μ5 hc5 => ?_)
            obtain ⟨rfl, hm5⟩ := hc5
            replace hm5 := hm5.symm
            subst hm5
            refine go_top (y := nI (clen (μ 6) i)) rfl ?_
            refine go_iconst C (pc := 30) (v := 1) (by decide) dX4_makeChanges_30 ?_
            refine go_iadd C (pc := 31) dX4_makeChanges_31 ?_
            refine go_iadd C (pc := 32) dX4_makeChanges_32 ?_
            refine go_top (y := nI (i + clen (μ 6) i + 1)) (by rw [nI_1, nI_add]; rfl) ?_
            refine go_istore3 C (pc := 33) dX4_makeChanges_33 ?_
            refine go_goto C (pc := 34) (tgt := 4) dX4_makeChanges_34 (by decide) ?_
            have hx : nI x.1 = nI (x.1 + (if (chgS (μ 6) i x.2).1 = true then 1 else 0)) := by rw [if_neg (by rw [bpos h18]; decide), Nat.add_zero]
            exact go_lv (by rw [hx]) (go_mem (msT_msT μ F1 G1 F2 G2) (ih (i + clen (μ 6) i + 1) (x.1 + (if (chgS (μ 6) i x.2).1 = true then 1 else 0), (chgS (μ 6) i x.2).2) F2 G2 (by omega) (by omega) (fun q => (g2 (by omega)).1) (TV_chg ho hT1) hS2 hrun))
          · refine go_iinc2 C (pc := 21) (v := 1) dX4_makeChanges_21 (by decide) ?_
            refine go_lv (lv' := [some (.ref (ad 4)), some (.ref (ad 1)), some (.int (nI (x.1 + 1))), some (.int (nI i))]) (by rw [nI_1]) ?_
            refine go_iload3 C (pc := 24) dX4_makeChanges_24 ?_
            refine go_aload0 C (pc := 25) dX4_makeChanges_25 ?_
            refine go_iload3 C (pc := 26) dX4_makeChanges_26 ?_
            refine go_ciV1 C (pc := 27) obj_4 (c_X4_changeLength C.fl C.ok _ _ ho.1) gX4_makeChanges_X4_changeLength rfl rfl yok_X4_changeLength ⟨rfl, rfl⟩ ⟨Nat.le_of_ble_eq_true rfl, Nat.le_of_ble_eq_true rfl⟩ (Nat.le_of_ble_eq_true rfl) ⟨Nat.zero_le _, Nat.zero_le _⟩ dX4_makeChanges_27 (fun r6 μ6 hc6 => ?_)
            obtain ⟨rfl, hm6⟩ := hc6
            replace hm6 := hm6.symm
            subst hm6
            refine go_top (y := nI (clen (μ 6) i)) rfl ?_
            refine go_iconst C (pc := 30) (v := 1) (by decide) dX4_makeChanges_30 ?_
            refine go_iadd C (pc := 31) dX4_makeChanges_31 ?_
            refine go_iadd C (pc := 32) dX4_makeChanges_32 ?_
            refine go_top (y := nI (i + clen (μ 6) i + 1)) (by rw [nI_1, nI_add]; rfl) ?_
            refine go_istore3 C (pc := 33) dX4_makeChanges_33 ?_
            refine go_goto C (pc := 34) (tgt := 4) dX4_makeChanges_34 (by decide) ?_
            have hx : nI (x.1 + 1) = nI (x.1 + (if (chgS (μ 6) i x.2).1 = true then 1 else 0)) := by rw [if_pos (bneg h18)]
            exact go_lv (by rw [hx]) (go_mem (msT_msT μ F1 G1 F2 G2) (ih (i + clen (μ 6) i + 1) (x.1 + (if (chgS (μ 6) i x.2).1 = true then 1 else 0), (chgS (μ 6) i x.2).2) F2 G2 (by omega) (by omega) (fun q => (g2 (by omega)).1) (TV_chg ho hT1) hS2 hrun))
      · refine go_iload3 C (pc := 4) dX4_makeChanges_4 ?_
        refine go_aload0 C (pc := 5) dX4_makeChanges_5 ?_
        refine go_get C (pc := 6) 4 (by decide) rfl rfl 1 (by decide) rfl rfl hi_X4_makeChanges_RX4 lk_X4_makeChanges_20 dX4_makeChanges_6 ?_
        refine go_icmp_ge C (pc := 9) (tgt := 37) dX4_makeChanges_9 (by decide) (fun h9 => ?_) (fun h9 => ?_)
        · refine go_iload2 C (pc := 37) dX4_makeChanges_37 ?_
          exact go_iret C hr dX4_makeChanges_38 ⟨by rw [hrun, run_stop (show w ≤ i by omega)], F1, G1, rfl, by rw [hrun, run_stop (show w ≤ i by omega)]; exact hS1⟩
        · exact absurd (cnt_le hl (show w ≤ i by omega) (by omega)) h9
  refine go_iconst C (pc := 0) (v := 0) (by decide) dX4_makeChanges_0 ?_
  refine go_istore2 C (pc := 1) dX4_makeChanges_1 ?_
  refine go_iconst C (pc := 2) (v := 0) (by decide) dX4_makeChanges_2 ?_
  refine go_istore3 C (pc := 3) dX4_makeChanges_3 ?_
  exact go_lv (by rw [nI_0]) (go_mem (by unfold msT; rw [mset_id, mset_id]) (key (w + 1) 0 (0, σ) (μ 1) (μ 3) (by omega) (by omega) (fun _ => rfl) hT (by unfold msT; rw [mset_id, mset_id]; exact hS) rfl))

