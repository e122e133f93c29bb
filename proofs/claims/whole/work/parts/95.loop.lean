/-! ===== the law's loop ===== -/
theorem msk63 (x : Int32) : ∃ v, v < 64 ∧ x &&& 63 = nI v := by
  obtain ⟨k, -, hk⟩ := nx_mask x
  refine ⟨k &&& 63, Nat.lt_of_le_of_lt Nat.and_le_right (by decide), ?_⟩
  rw [← nx_and, ← hk, Int32.and_assoc]
  rfl
theorem lend {L t : Nat} (hL : L ≤ 1536) (h3 : 3 * t ≤ L) (h : ¬ nI L - 3 < nI (3 * t)) : 3 * t + 2 < L := by
  have e3 : (3 : Int32).toInt = 3 := by decide
  have h1 := nI_toInt (n := L) (by omega)
  have h2 := nI_toInt (n := 3 * t) (by omega)
  have h4 : (nI L - 3).toInt = (L : Int) - 3 := by rw [fb_subI (by rw [h1, e3]; omega) (by rw [h1, e3]; omega), h1, e3]
  rw [Int32.lt_iff_toInt_lt, h4, h2] at h
  omega
set_option maxRecDepth 20000 in
set_option maxHeartbeats 4000000 in
theorem law_loop {p : Program} {l : Launch} {e : Env} {s : State} {m : MethodId} {below : List Frame} {meth : Method} {c : Code} {Q : State → Prop} {D : va_G} {ad : Nat → Nat} {cI cL : ClassId} {b L : Nat} {xs : Nat → Int32} (CL : CxL p l s m b meth c D ad cI cL L xs)
    (hend : ∀ (cells slots : Nat) (lv : List (Option Value)) (μ : Mem), cells ≤ room_1.cells → slots ≤ room_1.slots → Go p l e room_1 s m #[Value.ref b] below meth c cells slots Q (AL s) D ad cI cL 9 1743 lv [] μ) : ∀ (f t : Nat) (μ : Mem), L < 3 * t + f → 3 * t ≤ L → Inv μ → Go p l e room_1 s m #[Value.ref b] below meth c (34 + 4 * t) (821 + 24 * t) Q (AL s) D ad cI cL 9 23 (lvN b ad t) [] μ := by
  have C := CL.1
  have hL := CL.2.2.2.2
  intro f
  induction f with
  | zero => exact fun t μ h1 h2 => absurd h1 (by omega)
  | succ f ih =>
    intro t μ hf h3 hI
    have hc0 : 34 + 4 * t ≤ room_1.cells := Nat.le_trans (show 34 + 4 * t ≤ 34 + 4 * 512 by omega) (Nat.le_of_ble_eq_true rfl)
    have hs0 : 821 + 24 * t ≤ room_1.slots := Nat.le_trans (show 821 + 24 * t ≤ 821 + 24 * 512 by omega) (Nat.le_of_ble_eq_true rfl)
    refine go_lv (lv' := [some (.ref b), some (.ref (ad 0)), some (.ref (ad 25)), some (.ref (ad 33)), some (.int (nI (3 * t))), none, none, none, none]) rfl ?_
    refine go_iload4 C (pc := 23) dL_law_23 ?_
    refine go_aload0 C (pc := 25) dL_law_25 ?_
    refine go_slen CL (pc := 26) dL_law_26 ?_
    refine go_iconst C (pc := 27) (v := 3) (by decide) dL_law_27 ?_
    refine go_isub C (pc := 28) dL_law_28 ?_
    refine go_icmp_gt C (pc := 29) (tgt := 1743) dL_law_29 (by decide) (fun _ => hend _ _ _ _ hc0 hs0) (fun hlt => ?_)
    have ht : 3 * t + 2 < L := lend hL h3 hlt
    have hcs : (34 + 4 * t) + 4 ≤ room_1.cells ∧ (821 + 24 * t) + 24 ≤ room_1.slots := ⟨Nat.le_trans (show 34 + 4 * t + 4 ≤ 34 + 4 * 513 by omega) (Nat.le_of_ble_eq_true rfl), Nat.le_trans (show 821 + 24 * t + 24 ≤ 821 + 24 * 513 by omega) (Nat.le_of_ble_eq_true rfl)⟩
    have K : ∀ μ', Inv μ' → Go p l e room_1 s m #[Value.ref b] below meth c (34 + 4 * t + 4) (821 + 24 * t + 24) Q (AL s) D ad cI cL 9 1737 (lvN b ad t) [] μ' := by
      intro μ' hI'
      refine go_lv (lv' := [some (.ref b), some (.ref (ad 0)), some (.ref (ad 25)), some (.ref (ad 33)), some (.int (nI (3 * t))), none, none, none, none]) rfl ?_
      refine go_iinc4 C (pc := 1737) (v := 3) dL_law_1737 (by decide) ?_
      refine go_goto C (pc := 1740) (tgt := 23) dL_law_1740 (by decide) ?_
      refine go_widen (k := 34 + 4 * (t + 1)) (n := 821 + 24 * (t + 1)) (by omega) (by omega) ?_
      exact go_lv (lv' := lvN b ad (t + 1)) (by rw [nI_33]) (ih (t + 1) μ' (by omega) (by omega) hI')
    refine go_aload0 C (pc := 32) dL_law_32 ?_
    refine go_iload4 C (pc := 33) dL_law_33 ?_
    refine go_sld CL (pc := 35) (j := 3 * t) rfl (by omega) dL_law_35 ?_
    refine go_bipush C (pc := 36) (v := 63) (by decide) dL_law_36 ?_
    refine go_iand C (pc := 38) dL_law_38 ?_
    obtain ⟨v, hv, ev⟩ := msk63 (xs (3 * t))
    refine go_top ev ?_
    by_cases h0 : v = 0
    · subst h0
      exact go_tabIn C dL_law_39 (by decide) (by decide) (off := 153) (by decide +kernel) (by decide) (cs_0 CL ht hcs hI K)
    by_cases h1 : v = 1
    · subst h1
      exact go_tabIn C dL_law_39 (by decide) (by decide) (off := 197) (by decide +kernel) (by decide) (cs_1 CL ht hcs hI K)
    by_cases h2 : v = 2
    · subst h2
      exact go_tabIn C dL_law_39 (by decide) (by decide) (off := 253) (by decide +kernel) (by decide) (cs_2 CL ht hcs hI K)
    by_cases h3 : v = 3
    · subst h3
      exact go_tabIn C dL_law_39 (by decide) (by decide) (off := 321) (by decide +kernel) (by decide) (cs_3 CL ht hcs hI K)
    by_cases h4 : v = 4
    · subst h4
      exact go_tabIn C dL_law_39 (by decide) (by decide) (off := 389) (by decide +kernel) (by decide) (cs_4 CL ht hcs hI K)
    by_cases h5 : v = 5
    · subst h5
      exact go_tabIn C dL_law_39 (by decide) (by decide) (off := 452) (by decide +kernel) (by decide) (cs_5 CL ht hcs hI K)
    by_cases h6 : v = 6
    · subst h6
      exact go_tabIn C dL_law_39 (by decide) (by decide) (off := 496) (by decide +kernel) (by decide) (cs_6 CL ht hcs hI K)
    by_cases h7 : v = 7
    · subst h7
      exact go_tabIn C dL_law_39 (by decide) (by decide) (off := 554) (by decide +kernel) (by decide) (cs_7 CL ht hcs hI K)
    by_cases h8 : v = 8
    · subst h8
      exact go_tabIn C dL_law_39 (by decide) (by decide) (off := 567) (by decide +kernel) (by decide) (cs_8 CL ht hcs hI K)
    by_cases h9 : v = 9
    · subst h9
      exact go_tabIn C dL_law_39 (by decide) (by decide) (off := 580) (by decide +kernel) (by decide) (cs_9 CL ht hcs hI K)
    by_cases h10 : v = 10
    · subst h10
      exact go_tabIn C dL_law_39 (by decide) (by decide) (off := 624) (by decide +kernel) (by decide) (cs_10 CL ht hcs hI K)
    by_cases h11 : v = 11
    · subst h11
      exact go_tabIn C dL_law_39 (by decide) (by decide) (off := 668) (by decide +kernel) (by decide) (cs_11 CL ht hcs hI K)
    by_cases h12 : v = 12
    · subst h12
      exact go_tabIn C dL_law_39 (by decide) (by decide) (off := 681) (by decide +kernel) (by decide) (cs_12 CL ht hcs hI K)
    by_cases h13 : v = 13
    · subst h13
      exact go_tabIn C dL_law_39 (by decide) (by decide) (off := 725) (by decide +kernel) (by decide) (cs_13 CL ht hcs hI K)
    by_cases h14 : v = 14
    · subst h14
      exact go_tabIn C dL_law_39 (by decide) (by decide) (off := 738) (by decide +kernel) (by decide) (cs_14 CL ht hcs hI K)
    by_cases h15 : v = 15
    · subst h15
      exact go_tabIn C dL_law_39 (by decide) (by decide) (off := 751) (by decide +kernel) (by decide) (cs_15 CL ht hcs hI K)
    by_cases h16 : v = 16
    · subst h16
      exact go_tabIn C dL_law_39 (by decide) (by decide) (off := 807) (by decide +kernel) (by decide) (cs_16 CL ht hcs hI K)
    by_cases h17 : v = 17
    · subst h17
      exact go_tabIn C dL_law_39 (by decide) (by decide) (off := 870) (by decide +kernel) (by decide) (cs_17 CL ht hcs hI K)
    by_cases h18 : v = 18
    · subst h18
      exact go_tabIn C dL_law_39 (by decide) (by decide) (off := 883) (by decide +kernel) (by decide) (cs_18 CL ht hcs hI K)
    by_cases h19 : v = 19
    · subst h19
      exact go_tabIn C dL_law_39 (by decide) (by decide) (off := 896) (by decide +kernel) (by decide) (cs_19 CL ht hcs hI K)
    by_cases h20 : v = 20
    · subst h20
      exact go_tabIn C dL_law_39 (by decide) (by decide) (off := 952) (by decide +kernel) (by decide) (cs_20 CL ht hcs hI K)
    by_cases h21 : v = 21
    · subst h21
      exact go_tabIn C dL_law_39 (by decide) (by decide) (off := 1008) (by decide +kernel) (by decide) (cs_21 CL ht hcs hI K)
    by_cases h22 : v = 22
    · subst h22
      exact go_tabIn C dL_law_39 (by decide) (by decide) (off := 1064) (by decide +kernel) (by decide) (cs_22 CL ht hcs hI K)
    by_cases h23 : v = 23
    · subst h23
      exact go_tabIn C dL_law_39 (by decide) (by decide) (off := 1120) (by decide +kernel) (by decide) (cs_23 CL ht hcs hI K)
    by_cases h24 : v = 24
    · subst h24
      exact go_tabIn C dL_law_39 (by decide) (by decide) (off := 1176) (by decide +kernel) (by decide) (cs_24 CL ht hcs hI K)
    by_cases h25 : v = 25
    · subst h25
      exact go_tabIn C dL_law_39 (by decide) (by decide) (off := 1244) (by decide +kernel) (by decide) (cs_25 CL ht hcs hI K)
    by_cases h26 : v = 26
    · subst h26
      exact go_tabIn C dL_law_39 (by decide) (by decide) (off := 1300) (by decide +kernel) (by decide) (cs_26 CL ht hcs hI K)
    by_cases h27 : v = 27
    · subst h27
      exact go_tabIn C dL_law_39 (by decide) (by decide) (off := 1368) (by decide +kernel) (by decide) (cs_27 CL ht hcs hI K)
    by_cases h28 : v = 28
    · subst h28
      exact go_tabIn C dL_law_39 (by decide) (by decide) (off := 1436) (by decide +kernel) (by decide) (cs_28 CL ht hcs hI K)
    by_cases h29 : v = 29
    · subst h29
      exact go_tabIn C dL_law_39 (by decide) (by decide) (off := 1504) (by decide +kernel) (by decide) (cs_29 CL ht hcs hI K)
    by_cases h30 : v = 30
    · subst h30
      exact go_tabIn C dL_law_39 (by decide) (by decide) (off := 1560) (by decide +kernel) (by decide) (cs_30 CL ht hcs hI K)
    by_cases h31 : v = 31
    · subst h31
      exact go_tabIn C dL_law_39 (by decide) (by decide) (off := 1616) (by decide +kernel) (by decide) (cs_31 CL ht hcs hI K)
    by_cases h32 : v = 32
    · subst h32
      exact go_tabIn C dL_law_39 (by decide) (by decide) (off := 1629) (by decide +kernel) (by decide) (cs_32 CL ht hcs hI K)
    by_cases h33 : v = 33
    · subst h33
      exact go_tabIn C dL_law_39 (by decide) (by decide) (off := 1642) (by decide +kernel) (by decide) (cs_33 CL ht hcs hI K)
    by_cases h34 : v = 34
    · subst h34
      exact go_tabIn C dL_law_39 (by decide) (by decide) (off := 1685) (by decide +kernel) (by decide) (cs_34 CL ht hcs hI K)
    have hv35 : 35 ≤ v := by omega
    refine go_tabOut C dL_law_39 (Or.inr (by rw [nI_toInt (by omega)]; omega)) (tgt := 1737) (by decide) ?_
    exact go_widen (Nat.le_add_right _ _) (Nat.le_add_right _ _) (K μ hI)
