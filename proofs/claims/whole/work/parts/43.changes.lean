/-! ===== ThornCores$Text: making the changes ===== -/
theorem yok_X4_beginsChange : yOK yX4_beginsChange 1 := by unfold yOK; decide +kernel
theorem hi_X4_beginsChange_RX4 : ∀ w ∈ wsX40, w ∈ wsX4_beginsChange := by decide +kernel
theorem lk_X4_beginsChange_14 : Cond.fieldLink RX4 14 "ThornCores$Text" "characters" "LThornCores$Row;" ∈ wsX4_beginsChange := by decide +kernel
set_option maxRecDepth 20000 in
set_option maxHeartbeats 4000000 in
theorem c_X4_beginsChange {l : Launch} {D : va_G} {ad : Nat → Nat} {cI cL : ClassId} (hfl : l.flags = flags0) (hok : adOK ad) (μ : Mem) (i : Nat) (hi : i ≤ 60) : CtI l D ad cI cL yX4_beginsChange wsX4_beginsChange (RM 1 21) [.ref (ad 4), .int (nI i)] μ (fun (r : Int32) (μ' : Mem) => r = b2i (decide (i = 0 ∨ μ 6 (i - 1) = 44)) ∧ μ' = μ) := by
  refine ct_i (cc := cX4_beginsChange) (maxL := 2) (own := RX4) .boolean hfl hok (by decide) rfl rfl rfl (Nat.le_of_ble_eq_true rfl) (fun p e s m below meth c C hr => ?_)
  refine go_lv (lv' := [some (.ref (ad 4)), some (.int (nI i))]) rfl ?_
  refine go_iload1 C (pc := 0) dX4_beginsChange_0 ?_
  refine go_if_eq C (pc := 1) (tgt := 19) dX4_beginsChange_1 (by decide) (fun h1 => ?_) (fun h1 => ?_)
  · refine go_iconst C (pc := 19) (v := 1) (by decide) dX4_beginsChange_19 ?_
    refine go_goto C (pc := 20) (tgt := 24) dX4_beginsChange_20 (by decide) ?_
    exact go_zret C hr dX4_beginsChange_24 (by first | decide | exact b2i_01 _) ⟨by rw [decide_eq_true (Or.inl (nI_inj3 (by omega) (by decide) (h1.trans (show (0 : Int32) = nI 0 from rfl))))]; rfl, rfl⟩
  · have hp : i ≠ 0 := fun q => h1 (by rw [q]; rfl)
    refine go_aload0 C (pc := 4) dX4_beginsChange_4 ?_
    refine go_get C (pc := 5) 4 (by decide) rfl rfl 0 (by decide) rfl rfl hi_X4_beginsChange_RX4 lk_X4_beginsChange_14 dX4_beginsChange_5 ?_
    refine go_iload1 C (pc := 8) dX4_beginsChange_8 ?_
    refine go_iconst C (pc := 9) (v := 1) (by decide) dX4_beginsChange_9 ?_
    refine go_isub C (pc := 10) dX4_beginsChange_10 ?_
    refine go_top (y := nI (i - 1)) (by rw [show (1 : Int32) = nI 1 from rfl, pk_sub (show 1 ≤ i by omega)]) ?_
    refine go_ciV1 C (pc := 11) obj_5 (c_X3_atN C.fl C.ok _ 5 60 row_5 _  (by omega)) gX4_beginsChange_X3_at rfl rfl yok_X3_at ⟨rfl, rfl⟩ ⟨Nat.le_of_ble_eq_true rfl, Nat.le_of_ble_eq_true rfl⟩ (Nat.le_of_ble_eq_true rfl) ⟨Nat.zero_le _, Nat.zero_le _⟩ dX4_beginsChange_11 (fun r2 μ2 hc2 => ?_)
    obtain ⟨rfl, hm2⟩ := hc2
    replace hm2 := hm2.symm
    subst hm2
    refine go_top (y := μ 6 (i - 1)) rfl ?_
    refine go_bipush C (pc := 14) (v := 44) (by decide) dX4_beginsChange_14 ?_
    refine go_icmp_ne C (pc := 16) (tgt := 23) dX4_beginsChange_16 (by decide) (fun h16 => ?_) (fun h16 => ?_)
    · refine go_iconst C (pc := 23) (v := 0) (by decide) dX4_beginsChange_23 ?_
      exact go_zret C hr dX4_beginsChange_24 (by first | decide | exact b2i_01 _) ⟨by rw [decide_eq_false (fun q => q.elim hp h16)]; rfl, rfl⟩
    · refine go_iconst C (pc := 19) (v := 1) (by decide) dX4_beginsChange_19 ?_
      refine go_goto C (pc := 20) (tgt := 24) dX4_beginsChange_20 (by decide) ?_
      exact go_zret C hr dX4_beginsChange_24 (by first | decide | exact b2i_01 _) ⟨by rw [decide_eq_true (Or.inr h16)]; rfl, rfl⟩

theorem yok_X4_makeChange : yOK yX4_makeChange 2 := by unfold yOK; decide +kernel
theorem hi_X4_makeChange_RX4 : ∀ w ∈ wsX40, w ∈ wsX4_makeChange := by decide +kernel
theorem lk_X4_makeChange_14 : Cond.fieldLink RX4 14 "ThornCores$Text" "characters" "LThornCores$Row;" ∈ wsX4_makeChange := by decide +kernel
set_option maxRecDepth 20000 in
set_option maxHeartbeats 4000000 in
theorem c_X4_makeChange {l : Launch} {D : va_G} {ad : Nat → Nat} {cI cL : ClassId} (hfl : l.flags = flags0) (hok : adOK ad) (μ : Mem) (i : Nat) (σ : St) (hS : CSm μ σ) (hT : TVs σ) (ho : okC (μ 6) i) : CtI l D ad cI cL yX4_makeChange wsX4_makeChange (RM 3 65) [.ref (ad 4), .ref (ad 1), .int (nI i)] μ (fun (r : Int32) (μ' : Mem) => r = b2i (chgS (μ 6) i σ).1 ∧ ∃ f g, μ' = msT μ f g ∧ CSm μ' (chgS (μ 6) i σ).2) := by
  refine ct_i (cc := cX4_makeChange) (maxL := 4) (own := RX4) .boolean hfl hok (by decide) rfl rfl rfl (Nat.le_of_ble_eq_true rfl) (fun p e s m below meth c C hr => ?_)
  refine go_lv (lv' := [some (.ref (ad 4)), some (.ref (ad 1)), some (.int (nI i)), none]) rfl ?_
  refine go_aload0 C (pc := 0) dX4_makeChange_0 ?_
  refine go_get C (pc := 1) 4 (by decide) rfl rfl 0 (by decide) rfl rfl hi_X4_makeChange_RX4 lk_X4_makeChange_14 dX4_makeChange_1 ?_
  refine go_iload2 C (pc := 4) dX4_makeChange_4 ?_
  refine go_ciV1 C (pc := 5) obj_5 (c_X3_atN C.fl C.ok _ 5 60 row_5 _  ho.1) gX4_makeChange_X3_at rfl rfl yok_X3_at ⟨rfl, rfl⟩ ⟨Nat.le_of_ble_eq_true rfl, Nat.le_of_ble_eq_true rfl⟩ (Nat.le_of_ble_eq_true rfl) ⟨Nat.zero_le _, Nat.zero_le _⟩ dX4_makeChange_5 (fun r1 μ1 hc1 => ?_)
  obtain ⟨rfl, hm1⟩ := hc1
  replace hm1 := hm1.symm
  subst hm1
  refine go_top (y := μ 6 i) rfl ?_
  refine go_istore3 C (pc := 8) dX4_makeChange_8 ?_
  refine go_iload3 C (pc := 9) dX4_makeChange_9 ?_
  refine go_bipush C (pc := 10) (v := 43) (by decide) dX4_makeChange_10 ?_
  refine go_icmp_ne C (pc := 12) (tgt := 20) dX4_makeChange_12 (by decide) (fun h12 => ?_) (fun h12 => ?_)
  · refine go_iload3 C (pc := 20) dX4_makeChange_20 ?_
    refine go_bipush C (pc := 21) (v := 33) (by decide) dX4_makeChange_21 ?_
    refine go_icmp_ne C (pc := 23) (tgt := 38) dX4_makeChange_23 (by decide) (fun h23 => ?_) (fun h23 => ?_)
    · obtain ⟨q1, q2, q3⟩ := ho.2.2 h12 h23
      have nmA := nm_ok q2
      have nmB := nm_ok q3
      refine go_aload0 C (pc := 38) dX4_makeChange_38 ?_
      refine go_get C (pc := 39) 4 (by decide) rfl rfl 0 (by decide) rfl rfl hi_X4_makeChange_RX4 lk_X4_makeChange_14 dX4_makeChange_39 ?_
      refine go_iload2 C (pc := 42) dX4_makeChange_42 ?_
      refine go_iconst C (pc := 43) (v := 1) (by decide) dX4_makeChange_43 ?_
      refine go_iadd C (pc := 44) dX4_makeChange_44 ?_
      refine go_top (y := nI (i + 1)) (nI_1 i) ?_
      refine go_ciV1 C (pc := 45) obj_5 (c_X3_atN C.fl C.ok _ 5 60 row_5 _  (by omega)) gX4_makeChange_X3_at rfl rfl yok_X3_at ⟨rfl, rfl⟩ ⟨Nat.le_of_ble_eq_true rfl, Nat.le_of_ble_eq_true rfl⟩ (Nat.le_of_ble_eq_true rfl) ⟨Nat.zero_le _, Nat.zero_le _⟩ dX4_makeChange_45 (fun r4 μ4 hc4 => ?_)
      obtain ⟨rfl, hm4⟩ := hc4
      replace hm4 := hm4.symm
      subst hm4
      refine go_top (y := μ 6 (i + 1)) rfl ?_
      refine go_bipush C (pc := 48) (v := 45) (by decide) dX4_makeChange_48 ?_
      refine go_icmp_ne C (pc := 50) (tgt := 70) dX4_makeChange_50 (by decide) (fun h50 => ?_) (fun h50 => ?_)
      · refine go_aload1 C (pc := 70) dX4_makeChange_70 ?_
        refine go_aload0 C (pc := 71) dX4_makeChange_71 ?_
        refine go_iload2 C (pc := 72) dX4_makeChange_72 ?_
        refine go_ciV1 C (pc := 73) obj_4 (c_X4_named C.fl C.ok _ _ (by omega)) gX4_makeChange_X4_named rfl rfl yok_X4_named ⟨rfl, rfl⟩ ⟨Nat.le_of_ble_eq_true rfl, Nat.le_of_ble_eq_true rfl⟩ (Nat.le_of_ble_eq_true rfl) ⟨Nat.zero_le _, Nat.zero_le _⟩ dX4_makeChange_73 (fun r6 μ6 hc6 => ?_)
        obtain ⟨rfl, hm6⟩ := hc6
        replace hm6 := hm6.symm
        subst hm6
        refine go_top (y := nI (nmN (μ 6) i)) nmA.1 ?_
        refine go_aload0 C (pc := 76) dX4_makeChange_76 ?_
        refine go_iload2 C (pc := 77) dX4_makeChange_77 ?_
        refine go_iconst C (pc := 78) (v := 2) (by decide) dX4_makeChange_78 ?_
        refine go_iadd C (pc := 79) dX4_makeChange_79 ?_
        refine go_top (y := nI (i + 2)) (nI_2 i) ?_
        refine go_ciV1 C (pc := 80) obj_4 (c_X4_named C.fl C.ok _ _ (by omega)) gX4_makeChange_X4_named rfl rfl yok_X4_named ⟨rfl, rfl⟩ ⟨Nat.le_of_ble_eq_true rfl, Nat.le_of_ble_eq_true rfl⟩ (Nat.le_of_ble_eq_true rfl) ⟨Nat.zero_le _, Nat.zero_le _⟩ dX4_makeChange_80 (fun r7 μ7 hc7 => ?_)
        obtain ⟨rfl, hm7⟩ := hc7
        replace hm7 := hm7.symm
        subst hm7
        refine go_top (y := nI (nmN (μ 6) (i + 2))) nmB.1 ?_
        refine go_ciV2 C (pc := 83) obj_1 (c_X5_untie C.fl C.ok _ _ _ ) gX4_makeChange_X5_untie rfl rfl yok_X5_untie ⟨rfl, rfl⟩ ⟨Nat.le_of_ble_eq_true rfl, Nat.le_of_ble_eq_true rfl⟩ (Nat.le_of_ble_eq_true rfl) ⟨Nat.zero_le _, Nat.zero_le _⟩ dX4_makeChange_83 (fun r8 μ8 hc8 => ?_)
        obtain ⟨rfl, rfl⟩ := hc8
        obtain ⟨e1, f, g, e2, e3⟩ := CS_unt hS hT nmA.2.1 nmB.2.1
        refine go_zret C hr dX4_makeChange_86 (b2i_01 _) ⟨by rw [e1, chgS, if_neg h12, if_neg h23, if_neg h50], f, g, e2, ?_⟩
        rw [chgS, if_neg h12, if_neg h23, if_neg h50, e2]; exact e3
      · refine go_aload1 C (pc := 53) dX4_makeChange_53 ?_
        refine go_aload0 C (pc := 54) dX4_makeChange_54 ?_
        refine go_iload2 C (pc := 55) dX4_makeChange_55 ?_
        refine go_ciV1 C (pc := 56) obj_4 (c_X4_named C.fl C.ok _ _ (by omega)) gX4_makeChange_X4_named rfl rfl yok_X4_named ⟨rfl, rfl⟩ ⟨Nat.le_of_ble_eq_true rfl, Nat.le_of_ble_eq_true rfl⟩ (Nat.le_of_ble_eq_true rfl) ⟨Nat.zero_le _, Nat.zero_le _⟩ dX4_makeChange_56 (fun r9 μ9 hc9 => ?_)
        obtain ⟨rfl, hm9⟩ := hc9
        replace hm9 := hm9.symm
        subst hm9
        refine go_top (y := nI (nmN (μ 6) i)) nmA.1 ?_
        refine go_aload0 C (pc := 59) dX4_makeChange_59 ?_
        refine go_iload2 C (pc := 60) dX4_makeChange_60 ?_
        refine go_iconst C (pc := 61) (v := 2) (by decide) dX4_makeChange_61 ?_
        refine go_iadd C (pc := 62) dX4_makeChange_62 ?_
        refine go_top (y := nI (i + 2)) (nI_2 i) ?_
        refine go_ciV1 C (pc := 63) obj_4 (c_X4_named C.fl C.ok _ _ (by omega)) gX4_makeChange_X4_named rfl rfl yok_X4_named ⟨rfl, rfl⟩ ⟨Nat.le_of_ble_eq_true rfl, Nat.le_of_ble_eq_true rfl⟩ (Nat.le_of_ble_eq_true rfl) ⟨Nat.zero_le _, Nat.zero_le _⟩ dX4_makeChange_63 (fun r10 μ10 hc10 => ?_)
        obtain ⟨rfl, hm10⟩ := hc10
        replace hm10 := hm10.symm
        subst hm10
        refine go_top (y := nI (nmN (μ 6) (i + 2))) nmB.1 ?_
        refine go_ciV2 C (pc := 66) obj_1 (c_X5_tie C.fl C.ok _ _ _ ) gX4_makeChange_X5_tie rfl rfl yok_X5_tie ⟨rfl, rfl⟩ ⟨Nat.le_of_ble_eq_true rfl, Nat.le_of_ble_eq_true rfl⟩ (Nat.le_of_ble_eq_true rfl) ⟨Nat.zero_le _, Nat.zero_le _⟩ dX4_makeChange_66 (fun r11 μ11 hc11 => ?_)
        obtain ⟨rfl, rfl⟩ := hc11
        obtain ⟨f, g, e2, e3⟩ := CS_tie hS hT nmA.2.1 nmB.2.1
        refine go_zret C hr dX4_makeChange_69 (b2i_01 _) ⟨by rw [tieB_nI hS hT nmA.2.1 nmB.2.1, chgS, if_neg h12, if_neg h23, if_pos h50], f, g, e2, ?_⟩
        rw [chgS, if_neg h12, if_neg h23, if_pos h50, e2]; exact e3
    · obtain ⟨q1, q2⟩ := ho.2.1 h12 h23
      have nmB := nm_ok q2
      refine go_aload1 C (pc := 26) dX4_makeChange_26 ?_
      refine go_aload0 C (pc := 27) dX4_makeChange_27 ?_
      refine go_iload2 C (pc := 28) dX4_makeChange_28 ?_
      refine go_iconst C (pc := 29) (v := 1) (by decide) dX4_makeChange_29 ?_
      refine go_iadd C (pc := 30) dX4_makeChange_30 ?_
      refine go_top (y := nI (i + 1)) (nI_1 i) ?_
      refine go_ciV1 C (pc := 31) obj_4 (c_X4_named C.fl C.ok _ _ (by omega)) gX4_makeChange_X4_named rfl rfl yok_X4_named ⟨rfl, rfl⟩ ⟨Nat.le_of_ble_eq_true rfl, Nat.le_of_ble_eq_true rfl⟩ (Nat.le_of_ble_eq_true rfl) ⟨Nat.zero_le _, Nat.zero_le _⟩ dX4_makeChange_31 (fun r12 μ12 hc12 => ?_)
      obtain ⟨rfl, hm12⟩ := hc12
      replace hm12 := hm12.symm
      subst hm12
      refine go_top (y := nI (nmN (μ 6) (i + 1))) nmB.1 ?_
      refine go_ciV1 C (pc := 34) obj_1 (c_X5_turnProp C.fl C.ok _ _ ) gX4_makeChange_X5_turnProp rfl rfl yok_X5_turnProp ⟨rfl, rfl⟩ ⟨Nat.le_of_ble_eq_true rfl, Nat.le_of_ble_eq_true rfl⟩ (Nat.le_of_ble_eq_true rfl) ⟨Nat.zero_le _, Nat.zero_le _⟩ dX4_makeChange_34 (fun r13 μ13 hc13 => ?_)
      obtain ⟨rfl, rfl⟩ := hc13
      obtain ⟨e1, f, g, e2, e3⟩ := CS_turn hS hT nmB.2.1
      refine go_zret C hr dX4_makeChange_37 (b2i_01 _) ⟨by rw [e1, chgS, if_neg h12, if_pos h23], f, g, e2, ?_⟩
      rw [chgS, if_neg h12, if_pos h23, e2]; exact e3
  · refine go_aload1 C (pc := 15) dX4_makeChange_15 ?_
    refine go_ciV0 C (pc := 16) obj_1 (c_X5_grow C.fl C.ok _ ) gX4_makeChange_X5_grow rfl rfl yok_X5_grow ⟨rfl, rfl⟩ ⟨Nat.le_of_ble_eq_true rfl, Nat.le_of_ble_eq_true rfl⟩ (Nat.le_of_ble_eq_true rfl) ⟨Nat.zero_le _, Nat.zero_le _⟩ dX4_makeChange_16 (fun r14 μ14 hc14 => ?_)
    obtain ⟨rfl, rfl⟩ := hc14
    obtain ⟨e1, f, g, e2, e3⟩ := CS_grow hS hT
    refine go_zret C hr dX4_makeChange_19 (b2i_01 _) ⟨by rw [e1, chgS, if_pos h12], f, g, e2, ?_⟩
    rw [chgS, if_pos h12, e2]; exact e3

theorem run_stop {c : Nat → Int32} {w i : Nat} (h : w ≤ i) : ∀ f x, runC c w f i x = x
  | 0, _ => rfl
  | f + 1, x => by rw [runC, if_neg (by omega)]
theorem run_step {c : Nat → Int32} {w i f : Nat} {x : Nat × St} (h : i < w) : runC c w (f + 1) i x = runC c w f (i + clen c i + 1) (x.1 + (if (chgS c i x.2).1 = true then 1 else 0), (chgS c i x.2).2) := by rw [runC, if_pos h]
theorem dfa_0 {c : Nat → Int32} {i : Nat} (h : dfa c (i + 1) = 0) : dfa c i = 4 ∧ c i = 44 := by
  have h : aftN c (dfa c i) i = 0 := h
  unfold aftN aft0 at h
  repeat' split at h
  all_goals first | exact ⟨by assumption, by assumption⟩ | (exfalso; omega)
theorem dfa_44 {c : Nat → Int32} {i : Nat} (h : c i = 44) (h5 : dfa c (i + 1) ≠ 5) : dfa c (i + 1) = 0 := by
  by_cases q : dfa c i = 4
  · show aftN c (dfa c i) i = 0
    rw [q]
    show (if c i = 44 then 0 else 5) = 0
    rw [if_pos h]
  · exfalso
    apply h5
    show aftN c (dfa c i) i = 5
    have k1 : ¬ c i = 43 := by rw [h]; decide
    have k2 : ¬ c i = 33 := by rw [h]; decide
    have k3 : ¬ nameB (c i) = true := by rw [h]; decide
    have k4 : ¬ (c i = 45 ∨ c i = 47) := by rw [h]; decide
    have k5 : ¬ (nameB (c i) = true ∧ c i ≠ c (i - 2)) := fun z => k3 z.1
    unfold aftN aft0
    rw [if_neg k1, if_neg k2, if_neg k3, if_neg k4, if_neg k5, if_neg k3, if_neg q]
    repeat' split
    all_goals rfl
/-- in a list of changes a change begins at the first place, and behind each comma -/
theorem dfa_beg {c : Nat → Int32} {w i : Nat} (hv : dfa c w = 4) (hi : i ≤ w) : dfa c i = 0 ↔ (i = 0 ∨ c (i - 1) = 44) := by
  cases i with
  | zero => exact ⟨fun _ => Or.inl rfl, fun _ => rfl⟩
  | succ i =>
    have n5 : dfa c (i + 1) ≠ 5 := fun q => by
      have := dfa_5 c q w hi
      omega
    exact ⟨fun h => Or.inr (dfa_0 h).2, fun h => h.elim (fun q => by omega) (fun q => dfa_44 q n5)⟩
/-- inside a change none begins -/
theorem dfa_in {c : Nat → Int32} {i w : Nat} (hw : w ≤ 60) (hv : dfa c w = 4) (hi : i < w) (h0 : dfa c i = 0) : ∀ t, i + 1 ≤ t → t < i + clen c i + 1 → dfa c t ≠ 0 := by
  intro t h1 h2 hz
  obtain ⟨-, -, -, g4, -⟩ := chg_ok hw hv hi h0
  have e1 : dfa c (i + 1) = aft0 (c i) := by rw [dfa, h0]; rfl
  by_cases a : t = i + clen c i
  · rw [a, g4] at hz; omega
  · have hl : clen c i ≤ 3 := by
      unfold clen
      repeat' split
      all_goals decide
    have ht : t = i + 1 ∨ t = i + 2 := by omega
    rcases ht with rfl | rfl
    · rw [e1] at hz
      unfold aft0 at hz
      repeat' split at hz
      all_goals omega
    · have h4 := (dfa_0 hz).1
      rw [e1] at h4
      by_cases b : c i = 43
      · have e : clen c i = 1 := if_pos b
        omega
      · rw [aft0, if_neg b] at h4
        repeat' split at h4
        all_goals omega

theorem yok_X4_makeChanges : yOK yX4_makeChanges 1 := by unfold yOK; decide +kernel
theorem hi_X4_makeChanges_RX4 : ∀ w ∈ wsX40, w ∈ wsX4_makeChanges := by decide +kernel
theorem lk_X4_makeChanges_20 : Cond.fieldLink RX4 20 "ThornCores$Text" "length" "I" ∈ wsX4_makeChanges := by decide +kernel
set_option maxRecDepth 20000 in
set_option maxHeartbeats 4000000 in
theorem c_X4_makeChanges {l : Launch} {D : va_G} {ad : Nat → Nat} {cI cL : ClassId} (hfl : l.flags = flags0) (hok : adOK ad) (μ : Mem) (σ : St) (w : Nat) (hl : μ 4 1 = nI w) (hw : w ≤ 60) (hv : dfa (μ 6) w = 4) (hS : CSm μ σ) (hT : TVs σ) : CtI l D ad cI cL yX4_makeChanges wsX4_makeChanges (RM 4 88) [.ref (ad 4), .ref (ad 1)] μ (fun (r : Int32) (μ' : Mem) => r = nI (runC (μ 6) w (w + 1) 0 (0, σ)).1 ∧ ∃ f g, μ' = msT μ f g ∧ CSm μ' (runC (μ 6) w (w + 1) 0 (0, σ)).2) := by
  refine ct_i (cc := cX4_makeChanges) (maxL := 4) (own := RX4) .int hfl hok (by decide) rfl rfl rfl (Nat.le_of_ble_eq_true rfl) (fun p e s m below meth c C hr => ?_)
  refine go_lv (lv' := [some (.ref (ad 4)), some (.ref (ad 1)), none, none]) rfl ?_
  have key : ∀ d, ∀ j f i x F1 G1, w = j + d → j ≤ i → (∀ t, j ≤ t → t < i → t < w → dfa (μ 6) t ≠ 0) → (i < w → dfa (μ 6) i = 0) → w + 1 ≤ i + f → i ≤ 61 → TVs x.2 → CSm (msT μ F1 G1) x.2 → runC (μ 6) w (w + 1) 0 (0, σ) = runC (μ 6) w f i x → Go p l e (headSpec wsX4_makeChanges (RM 4 88)).room s m ([.ref (ad 4), .ref (ad 1)] : List Value).toArray below meth c 0 0 (MQ below (va_Qi (fun (r : Int32) (μ' : Mem) => r = nI (runC (μ 6) w (w + 1) 0 (0, σ)).1 ∧ ∃ f g, μ' = msT μ f g ∧ CSm μ' (runC (μ 6) w (w + 1) 0 (0, σ)).2) (fun μ' t => PreW D ad cI cL μ' t) (AW ad)) ([.ref (ad 4), .ref (ad 1)] : List Value).toArray s 0 0 (AW ad)) (AW ad) D ad cI cL 4 4 [some (.ref (ad 4)), some (.ref (ad 1)), some (.int (nI x.1)), some (.int (nI j))] [] (msT μ F1 G1) := by
    intro d
    induction d with
    | zero =>
      intro j f i x F1 G1 hd hji _ _ _ _ _ hS1 hrun
      refine go_iload3 C (pc := 4) dX4_makeChanges_4 ?_
      refine go_aload0 C (pc := 5) dX4_makeChanges_5 ?_
      refine go_get C (pc := 6) 4 (by decide) rfl rfl 1 (by decide) rfl rfl hi_X4_makeChanges_RX4 lk_X4_makeChanges_20 dX4_makeChanges_6 ?_
      refine go_icmp_ge C (pc := 9) (tgt := 38) dX4_makeChanges_9 (by decide) (fun h9 => ?_) (fun h9 => ?_)
      · refine go_iload2 C (pc := 38) dX4_makeChanges_38 ?_
        exact go_iret C hr dX4_makeChanges_39 ⟨by rw [hrun, run_stop (show w ≤ i by omega)], F1, G1, rfl, by rw [hrun, run_stop (show w ≤ i by omega)]; exact hS1⟩
      · exact absurd (cnt_le hl (show w ≤ j by omega) (by omega)) h9
    | succ d ih =>
      intro j f i x F1 G1 hd hji hno h0 hf hi hT1 hS1 hrun
      by_cases hb : dfa (μ 6) j = 0
      · have hij : i = j := by
          rcases Nat.lt_or_ge j i with q | q
          · exact absurd hb (hno j (Nat.le_refl _) q (by omega))
          · omega
        subst hij
        have hlt : i < w := by omega
        obtain ⟨ho, g1, g2, g3, -⟩ := chg_ok hw hv hlt (h0 hlt)
        have hin := dfa_in hw hv hlt (h0 hlt)
        have hcp : 1 ≤ clen (μ 6) i := by
          unfold clen
          repeat' split
          all_goals decide
        obtain ⟨f, rfl⟩ : ∃ f', f = f' + 1 := ⟨f - 1, by omega⟩
        rw [run_step (f := f) (x := x) hlt] at hrun
        refine go_iload3 C (pc := 4) dX4_makeChanges_4 ?_
        refine go_aload0 C (pc := 5) dX4_makeChanges_5 ?_
        refine go_get C (pc := 6) 4 (by decide) rfl rfl 1 (by decide) rfl rfl hi_X4_makeChanges_RX4 lk_X4_makeChanges_20 dX4_makeChanges_6 ?_
        refine go_icmp_ge C (pc := 9) (tgt := 38) dX4_makeChanges_9 (by decide) (fun h9 => ?_) (fun h9 => ?_)
        · exact absurd h9 (cnt_nle hl hlt (by omega))
        · refine go_aload0 C (pc := 12) dX4_makeChanges_12 ?_
          refine go_iload3 C (pc := 13) dX4_makeChanges_13 ?_
          refine go_ciV1 C (pc := 14) obj_4 (c_X4_beginsChange C.fl C.ok _ _ (by omega)) gX4_makeChanges_X4_beginsChange rfl rfl yok_X4_beginsChange ⟨rfl, rfl⟩ ⟨Nat.le_of_ble_eq_true rfl, Nat.le_of_ble_eq_true rfl⟩ (Nat.le_of_ble_eq_true rfl) ⟨Nat.zero_le _, Nat.zero_le _⟩ dX4_makeChanges_14 (fun r3 μ3 hc3 => ?_)
          obtain ⟨rfl, hm3⟩ := hc3
          replace hm3 := hm3.symm
          subst hm3
          refine go_top (y := b2i (decide (i = 0 ∨ μ 6 (i - 1) = 44))) rfl ?_
          refine go_if_eq C (pc := 17) (tgt := 32) dX4_makeChanges_17 (by decide) (fun h17 => ?_) (fun h17 => ?_)
          · exact absurd (bpos h17) (by rw [decide_eq_true ((dfa_beg hv (by omega)).mp hb)]; decide)
          · refine go_aload0 C (pc := 20) dX4_makeChanges_20 ?_
            refine go_aload1 C (pc := 21) dX4_makeChanges_21 ?_
            refine go_iload3 C (pc := 22) dX4_makeChanges_22 ?_
            refine go_ciV2 C (pc := 23) obj_4 (c_X4_makeChange C.fl C.ok (msT μ F1 G1) _ x.2 hS1 hT1 ho) gX4_makeChanges_X4_makeChange rfl rfl yok_X4_makeChange ⟨rfl, rfl⟩ ⟨Nat.le_of_ble_eq_true rfl, Nat.le_of_ble_eq_true rfl⟩ (Nat.le_of_ble_eq_true rfl) ⟨Nat.zero_le _, Nat.zero_le _⟩ dX4_makeChanges_23 (fun r5 μ5 hc5 => ?_)
            obtain ⟨rfl, F2, G2, rfl, hS2⟩ := hc5
            replace hS2 : CSm (msT μ F2 G2) (chgS (μ 6) i x.2).2 := by rw [← msT_msT μ F1 G1 F2 G2]; exact hS2
            refine go_top (y := b2i (chgS (μ 6) i x.2).1) rfl ?_
            refine go_if_eq C (pc := 26) (tgt := 32) dX4_makeChanges_26 (by decide) (fun h26 => ?_) (fun h26 => ?_)
            · refine go_iinc3 C (pc := 32) (v := 1) dX4_makeChanges_32 (by decide) ?_
              refine go_goto C (pc := 35) (tgt := 4) dX4_makeChanges_35 (by decide) ?_
              have hx : nI x.1 = nI (x.1 + (if (chgS (μ 6) i x.2).1 = true then 1 else 0)) := by rw [if_neg (by rw [bpos h26]; decide), Nat.add_zero]
              exact go_lv (by rw [hx, nI_1]) (go_mem (msT_msT μ F1 G1 F2 G2) (ih (i + 1) f (i + clen (μ 6) i + 1) (x.1 + (if (chgS (μ 6) i x.2).1 = true then 1 else 0), (chgS (μ 6) i x.2).2) F2 G2 (by omega) (by omega) (fun t a b _ => hin t a b) (fun q => (g2 (by omega)).1) (by omega) (by omega) (TV_chg ho hT1) hS2 hrun))
            · refine go_iinc2 C (pc := 29) (v := 1) dX4_makeChanges_29 (by decide) ?_
              refine go_lv (lv' := [some (.ref (ad 4)), some (.ref (ad 1)), some (.int (nI (x.1 + 1))), some (.int (nI i))]) (by rw [nI_1]) ?_
              refine go_iinc3 C (pc := 32) (v := 1) dX4_makeChanges_32 (by decide) ?_
              refine go_goto C (pc := 35) (tgt := 4) dX4_makeChanges_35 (by decide) ?_
              have hx : nI (x.1 + 1) = nI (x.1 + (if (chgS (μ 6) i x.2).1 = true then 1 else 0)) := by rw [if_pos (bneg h26)]
              exact go_lv (by rw [hx, nI_1]) (go_mem (msT_msT μ F1 G1 F2 G2) (ih (i + 1) f (i + clen (μ 6) i + 1) (x.1 + (if (chgS (μ 6) i x.2).1 = true then 1 else 0), (chgS (μ 6) i x.2).2) F2 G2 (by omega) (by omega) (fun t a b _ => hin t a b) (fun q => (g2 (by omega)).1) (by omega) (by omega) (TV_chg ho hT1) hS2 hrun))
      · have hlt : j < w := by omega
        have hne : i ≠ j := fun q => hb (by rw [← q]; exact h0 (by omega))
        refine go_iload3 C (pc := 4) dX4_makeChanges_4 ?_
        refine go_aload0 C (pc := 5) dX4_makeChanges_5 ?_
        refine go_get C (pc := 6) 4 (by decide) rfl rfl 1 (by decide) rfl rfl hi_X4_makeChanges_RX4 lk_X4_makeChanges_20 dX4_makeChanges_6 ?_
        refine go_icmp_ge C (pc := 9) (tgt := 38) dX4_makeChanges_9 (by decide) (fun h9 => ?_) (fun h9 => ?_)
        · exact absurd h9 (cnt_nle hl hlt (by omega))
        · refine go_aload0 C (pc := 12) dX4_makeChanges_12 ?_
          refine go_iload3 C (pc := 13) dX4_makeChanges_13 ?_
          refine go_ciV1 C (pc := 14) obj_4 (c_X4_beginsChange C.fl C.ok _ _ (by omega)) gX4_makeChanges_X4_beginsChange rfl rfl yok_X4_beginsChange ⟨rfl, rfl⟩ ⟨Nat.le_of_ble_eq_true rfl, Nat.le_of_ble_eq_true rfl⟩ (Nat.le_of_ble_eq_true rfl) ⟨Nat.zero_le _, Nat.zero_le _⟩ dX4_makeChanges_14 (fun r8 μ8 hc8 => ?_)
          obtain ⟨rfl, hm8⟩ := hc8
          replace hm8 := hm8.symm
          subst hm8
          refine go_top (y := b2i (decide (j = 0 ∨ μ 6 (j - 1) = 44))) rfl ?_
          refine go_if_eq C (pc := 17) (tgt := 32) dX4_makeChanges_17 (by decide) (fun h17 => ?_) (fun h17 => ?_)
          · refine go_iinc3 C (pc := 32) (v := 1) dX4_makeChanges_32 (by decide) ?_
            refine go_goto C (pc := 35) (tgt := 4) dX4_makeChanges_35 (by decide) ?_
            exact go_lv (by rw [nI_1]) (ih (j + 1) f i x F1 G1 (by omega) (by omega) (fun t a b e => hno t (by omega) b e) h0 hf hi hT1 hS1 hrun)
          · exact absurd (bneg h17) (by rw [decide_eq_false (fun q => hb ((dfa_beg hv (by omega)).mpr q))]; decide)
  refine go_iconst C (pc := 0) (v := 0) (by decide) dX4_makeChanges_0 ?_
  refine go_istore2 C (pc := 1) dX4_makeChanges_1 ?_
  refine go_iconst C (pc := 2) (v := 0) (by decide) dX4_makeChanges_2 ?_
  refine go_istore3 C (pc := 3) dX4_makeChanges_3 ?_
  exact go_lv (by rw [nI_0]) (go_mem (by unfold msT; rw [mset_id, mset_id]) (key w 0 (w + 1) 0 (0, σ) (μ 1) (μ 3) (by omega) (by omega) (fun t a b _ => absurd b (by omega)) (fun _ => rfl) (by omega) (by omega) hT (by unfold msT; rw [mset_id, mset_id]; exact hS) rfl))

