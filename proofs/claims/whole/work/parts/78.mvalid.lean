/-! ===== ThornCoresModel: isValid, firstError ===== -/
theorem yok_X8_isValid : yOK yX8_isValid 0 := by unfold yOK; decide +kernel
theorem hi_X8_isValid_RX8 : ∀ w ∈ wsX80, w ∈ wsX8_isValid := by decide +kernel
theorem lk_X8_isValid_31 : Cond.fieldLink RX8 31 "ThornCoresModel" "thrown" "I" ∈ wsX8_isValid := by decide +kernel
theorem lk_X8_isValid_106 : Cond.fieldLink RX8 106 "ThornCoresModel" "isWrong" "Z" ∈ wsX8_isValid := by decide +kernel
set_option maxRecDepth 20000 in
set_option maxHeartbeats 4000000 in
theorem c_X8_isValid {l : Launch} {D : va_G} {ad : Nat → Nat} {cI cL : ClassId} (hfl : l.flags = flags0) (hok : adOK ad) (μ : Mem) (w : Nat) {n : Nat} {pr : Int32} {th : Nat → Int32} (hM : Mo μ n pr th) (hT : TV n pr th) (hl : μ 25 6 = nI w) (hw : w ≤ 60) : CtI l D ad cI cL yX8_isValid wsX8_isValid (RM 4 93) [.ref (ad 25)] μ (fun (r : Int32) (μ' : Mem) => r = b2i (decide (dfa (μ 29) w = 4)) ∧ μ' 25 7 = 0 ∧ kp μ μ' [25]) := by
  refine ct_i (cc := cX8_isValid) (maxL := 2) (own := RX8) .boolean hfl hok (by decide) rfl rfl rfl (Nat.le_of_ble_eq_true rfl) (fun p e s m below meth c C hr => ?_)
  refine go_lv (lv' := [some (.ref (ad 25)), none]) rfl ?_
  refine go_aload0 C (pc := 0) dX8_isValid_0 ?_
  refine go_iconst C (pc := 1) (v := 0) (by decide) dX8_isValid_1 ?_
  refine go_put C (pc := 2) 25 (by decide) rfl rfl 7 (by decide) rfl hi_X8_isValid_RX8 lk_X8_isValid_31 tyX8_ok nmX8 rfl rfl rfl (Nat.le_of_ble_eq_true rfl) rfl dX8_isValid_2 ?_
  refine go_aload0 C (pc := 5) dX8_isValid_5 ?_
  refine go_iconst C (pc := 6) (v := 0) (by decide) dX8_isValid_6 ?_
  refine go_ciV1 C (pc := 7) obj_25 (c_X8_go0 C.fl C.ok (mset μ 25 (upd (μ 25) 7 0)) w hM hT hl hw) gX8_isValid_X8_go rfl rfl yok_X8_go ⟨rfl, rfl⟩ ⟨Nat.le_of_ble_eq_true rfl, Nat.le_of_ble_eq_true rfl⟩ (Nat.le_of_ble_eq_true rfl) ⟨Nat.zero_le _, Nat.zero_le _⟩ dX8_isValid_7 (fun r1 μ1 hc1 => ?_)
  obtain ⟨e9, wr, ⟨u, hm1, e1, e2, g0⟩, hq1, hq2⟩ := hc1
  rw [mset_mset] at hm1
  subst hm1
  replace hq1 : wr = false → dfa (μ 29) w = 4 := hq1
  replace hq2 : wr = true → fE (μ 29) w e9 := hq2
  have g7 : u 7 = 0 := g0 7 (by decide) (by decide)
  replace e1 : u 11 = nI e9 := e1
  replace e2 : u 12 = b2i wr := e2
  refine go_istore1 C (pc := 10) dX8_isValid_10 ?_
  refine go_aload0 C (pc := 11) dX8_isValid_11 ?_
  refine go_get C (pc := 12) 25 (by decide) rfl rfl 12 (by decide) rfl rfl hi_X8_isValid_RX8 lk_X8_isValid_106 dX8_isValid_12 ?_
  refine go_top (y := b2i wr) e2 ?_
  refine go_if_ne C (pc := 15) (tgt := 22) dX8_isValid_15 (by decide) (fun h15 => ?_) (fun h15 => ?_)
  · refine go_iconst C (pc := 22) (v := 0) (by decide) dX8_isValid_22 ?_
    have g : ∀ f, f = 2 ∨ f = 4 ∨ f = 6 → u f = μ 25 f := fun f hf => (g0 f (by omega) (by omega)).trans (pk_un (by omega))
    exact go_zret C hr dX8_isValid_23 (by decide) ⟨by rw [decide_eq_false (fE_no (hq2 (bneg h15)))]; rfl, g7, ⟨⟨g 2 (by decide), g 4 (by decide), g 6 (by decide)⟩, (by repeat' (first | exact same_rf | refine same_ms ?_ (by decide)))⟩⟩
  · refine go_iconst C (pc := 18) (v := 1) (by decide) dX8_isValid_18 ?_
    refine go_goto C (pc := 19) (tgt := 23) dX8_isValid_19 (by decide) ?_
    have g : ∀ f, f = 2 ∨ f = 4 ∨ f = 6 → u f = μ 25 f := fun f hf => (g0 f (by omega) (by omega)).trans (pk_un (by omega))
    exact go_zret C hr dX8_isValid_23 (by decide) ⟨by rw [decide_eq_true (hq1 (bpos h15))]; rfl, g7, ⟨⟨g 2 (by decide), g 4 (by decide), g 6 (by decide)⟩, (by repeat' (first | exact same_rf | refine same_ms ?_ (by decide)))⟩⟩

theorem yok_X8_firstError : yOK yX8_firstError 0 := by unfold yOK; decide +kernel
theorem hi_X8_firstError_RX8 : ∀ w ∈ wsX80, w ∈ wsX8_firstError := by decide +kernel
theorem lk_X8_firstError_31 : Cond.fieldLink RX8 31 "ThornCoresModel" "thrown" "I" ∈ wsX8_firstError := by decide +kernel
theorem lk_X8_firstError_106 : Cond.fieldLink RX8 106 "ThornCoresModel" "isWrong" "Z" ∈ wsX8_firstError := by decide +kernel
theorem lk_X8_firstError_103 : Cond.fieldLink RX8 103 "ThornCoresModel" "at" "I" ∈ wsX8_firstError := by decide +kernel
set_option maxRecDepth 20000 in
set_option maxHeartbeats 4000000 in
theorem c_X8_firstError {l : Launch} {D : va_G} {ad : Nat → Nat} {cI cL : ClassId} (hfl : l.flags = flags0) (hok : adOK ad) (μ : Mem) (w : Nat) {n : Nat} {pr : Int32} {th : Nat → Int32} (hM : Mo μ n pr th) (hT : TV n pr th) (hl : μ 25 6 = nI w) (hw : w ≤ 60) : CtI l D ad cI cL yX8_firstError wsX8_firstError (RM 4 93) [.ref (ad 25)] μ (fun (r : Int32) (μ' : Mem) => ((dfa (μ 29) w = 4 ∧ μ' 25 7 = 1) ∨ (∃ e9, fE (μ 29) w e9 ∧ r = nI e9 ∧ μ' 25 7 = 0)) ∧ kp μ μ' [25]) := by
  refine ct_i (cc := cX8_firstError) (maxL := 2) (own := RX8) .int hfl hok (by decide) rfl rfl rfl (Nat.le_of_ble_eq_true rfl) (fun p e s m below meth c C hr => ?_)
  refine go_lv (lv' := [some (.ref (ad 25)), none]) rfl ?_
  refine go_aload0 C (pc := 0) dX8_firstError_0 ?_
  refine go_iconst C (pc := 1) (v := 0) (by decide) dX8_firstError_1 ?_
  refine go_put C (pc := 2) 25 (by decide) rfl rfl 7 (by decide) rfl hi_X8_firstError_RX8 lk_X8_firstError_31 tyX8_ok nmX8 rfl rfl rfl (Nat.le_of_ble_eq_true rfl) rfl dX8_firstError_2 ?_
  refine go_aload0 C (pc := 5) dX8_firstError_5 ?_
  refine go_iconst C (pc := 6) (v := 0) (by decide) dX8_firstError_6 ?_
  refine go_ciV1 C (pc := 7) obj_25 (c_X8_go0 C.fl C.ok (mset μ 25 (upd (μ 25) 7 0)) w hM hT hl hw) gX8_firstError_X8_go rfl rfl yok_X8_go ⟨rfl, rfl⟩ ⟨Nat.le_of_ble_eq_true rfl, Nat.le_of_ble_eq_true rfl⟩ (Nat.le_of_ble_eq_true rfl) ⟨Nat.zero_le _, Nat.zero_le _⟩ dX8_firstError_7 (fun r1 μ1 hc1 => ?_)
  obtain ⟨e9, wr, ⟨u, hm1, e1, e2, g0⟩, hq1, hq2⟩ := hc1
  rw [mset_mset] at hm1
  subst hm1
  replace hq1 : wr = false → dfa (μ 29) w = 4 := hq1
  replace hq2 : wr = true → fE (μ 29) w e9 := hq2
  have g7 : u 7 = 0 := g0 7 (by decide) (by decide)
  replace e1 : u 11 = nI e9 := e1
  replace e2 : u 12 = b2i wr := e2
  refine go_istore1 C (pc := 10) dX8_firstError_10 ?_
  refine go_aload0 C (pc := 11) dX8_firstError_11 ?_
  refine go_get C (pc := 12) 25 (by decide) rfl rfl 12 (by decide) rfl rfl hi_X8_firstError_RX8 lk_X8_firstError_106 dX8_firstError_12 ?_
  refine go_top (y := b2i wr) e2 ?_
  refine go_if_eq C (pc := 15) (tgt := 25) dX8_firstError_15 (by decide) (fun h15 => ?_) (fun h15 => ?_)
  · refine go_aload0 C (pc := 25) dX8_firstError_25 ?_
    refine go_iconst C (pc := 26) (v := 1) (by decide) dX8_firstError_26 ?_
    refine go_ciV1 C (pc := 27) obj_25 (c_X8_throwing C.fl C.ok _ _ ) gX8_firstError_X8_throwing rfl rfl yok_X8_throwing ⟨rfl, rfl⟩ ⟨Nat.le_of_ble_eq_true rfl, Nat.le_of_ble_eq_true rfl⟩ (Nat.le_of_ble_eq_true rfl) ⟨Nat.zero_le _, Nat.zero_le _⟩ dX8_firstError_27 (fun r3 μ3 hc3 => ?_)
    obtain ⟨rfl, hm3⟩ := hc3
    replace hm3 := hm3.symm
    subst hm3
    have g : ∀ f, f = 2 ∨ f = 4 ∨ f = 6 → u f = μ 25 f := fun f hf => (g0 f (by omega) (by omega)).trans (pk_un (by omega))
    exact go_iret C hr dX8_firstError_30 ⟨Or.inl ⟨hq1 (bpos h15), rfl⟩, ⟨⟨g 2 (by decide), g 4 (by decide), g 6 (by decide)⟩, (by repeat' (first | exact same_rf | refine same_ms ?_ (by decide)))⟩⟩
  · refine go_aload0 C (pc := 18) dX8_firstError_18 ?_
    refine go_get C (pc := 19) 25 (by decide) rfl rfl 11 (by decide) rfl rfl hi_X8_firstError_RX8 lk_X8_firstError_103 dX8_firstError_19 ?_
    refine go_top (y := nI (e9)) (e1) ?_
    refine go_goto C (pc := 22) (tgt := 30) dX8_firstError_22 (by decide) ?_
    have g : ∀ f, f = 2 ∨ f = 4 ∨ f = 6 → u f = μ 25 f := fun f hf => (g0 f (by omega) (by omega)).trans (pk_un (by omega))
    exact go_iret C hr dX8_firstError_30 ⟨Or.inr ⟨e9, hq2 (bneg h15), rfl, g7⟩, ⟨⟨g 2 (by decide), g 4 (by decide), g 6 (by decide)⟩, (by repeat' (first | exact same_rf | refine same_ms ?_ (by decide)))⟩⟩

