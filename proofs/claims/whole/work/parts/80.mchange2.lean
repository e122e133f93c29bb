/-! ===== ThornCoresModel: change ===== -/
theorem mh_same2 {μ μ' : Mem} {q : Nat} {h : Nat → Nat → Int32} (hH : MH μ q h) (hf : ∀ f, f ≠ 11 → f ≠ 12 → μ' 25 f = μ 25 f) (hs : same μ μ' [25, 26]) : MH μ' q h := by
  refine ⟨(hf 2 (by decide) (by decide)).trans hH.1, hH.2.1, ?_⟩
  rw [hs 27 (by decide)]; exact hH.2.2
theorem yok_X8_change : yOK yX8_change 0 := by unfold yOK; decide +kernel
theorem hi_X8_change_RX8 : ∀ w ∈ wsX80, w ∈ wsX8_change := by decide +kernel
theorem lk_X8_change_31 : Cond.fieldLink RX8 31 "ThornCoresModel" "thrown" "I" ∈ wsX8_change := by decide +kernel
theorem lk_X8_change_106 : Cond.fieldLink RX8 106 "ThornCoresModel" "isWrong" "Z" ∈ wsX8_change := by decide +kernel
set_option maxRecDepth 20000 in
set_option maxHeartbeats 4000000 in
theorem c_X8_change {l : Launch} {D : va_G} {ad : Nat → Nat} {cI cL : ClassId} (hfl : l.flags = flags0) (hok : adOK ad) (μ : Mem) (w : Nat) {n : Nat} {pr : Int32} {th : Nat → Int32} (hM : Mo μ n pr th) (hT : TV n pr th) {q : Nat} {h : Nat → Nat → Int32} (hH : MH μ q h) (hl : μ 25 6 = nI w) (hw : w ≤ 60) : CtI l D ad cI cL yX8_change wsX8_change (RM 4 93) [.ref (ad 25)] μ (fun (r : Int32) (μ' : Mem) => (dfa (μ 29) w ≠ 4 ∧ μ' 25 7 = 1 ∧ kp μ μ' [25]) ∨ (dfa (μ 29) w = 4 ∧ r = nI (runC (μ 29) w (w + 1) 0 (0, (n, pr, th))).1 ∧ MoS μ' (runC (μ 29) w (w + 1) 0 (0, (n, pr, th))).2 ∧ MH μ' (remM q) (remH q h (stV (nI n) pr th)) ∧ μ' 25 7 = 0 ∧ (μ' 25 4 = μ 25 4 ∧ μ' 25 6 = μ 25 6) ∧ same μ μ' [25, 26, 27])) := by
  refine ct_i (cc := cX8_change) (maxL := 2) (own := RX8) .int hfl hok (by decide) rfl rfl rfl (Nat.le_of_ble_eq_true rfl) (fun p e s m below meth c C hr => ?_)
  refine go_lv (lv' := [some (.ref (ad 25)), none]) rfl ?_
  refine go_aload0 C (pc := 0) dX8_change_0 ?_
  refine go_iconst C (pc := 1) (v := 0) (by decide) dX8_change_1 ?_
  refine go_put C (pc := 2) 25 (by decide) rfl rfl 7 (by decide) rfl hi_X8_change_RX8 lk_X8_change_31 tyX8_ok nmX8 rfl rfl rfl (Nat.le_of_ble_eq_true rfl) rfl dX8_change_2 ?_
  refine go_aload0 C (pc := 5) dX8_change_5 ?_
  refine go_iconst C (pc := 6) (v := 0) (by decide) dX8_change_6 ?_
  refine go_ciV1 C (pc := 7) obj_25 (c_X8_go0 C.fl C.ok (mset μ 25 (upd (μ 25) 7 0)) w hM hT hl hw) gX8_change_X8_go rfl rfl yok_X8_go ⟨rfl, rfl⟩ ⟨Nat.le_of_ble_eq_true rfl, Nat.le_of_ble_eq_true rfl⟩ (Nat.le_of_ble_eq_true rfl) ⟨Nat.zero_le _, Nat.zero_le _⟩ dX8_change_7 (fun r1 μ1 hc1 => ?_)
  obtain ⟨e9, wr, ⟨u, hm1, e1, e2, g0⟩, hq1, hq2⟩ := hc1
  rw [mset_mset] at hm1
  subst hm1
  replace hq1 : wr = false → dfa (μ 29) w = 4 := hq1
  replace hq2 : wr = true → fE (μ 29) w e9 := hq2
  have g7 : u 7 = 0 := g0 7 (by decide) (by decide)
  replace e1 : u 11 = nI e9 := e1
  replace e2 : u 12 = b2i wr := e2
  have g : ∀ f, f = 2 ∨ f = 4 ∨ f = 6 → u f = μ 25 f := fun f hf => (g0 f (by omega) (by omega)).trans (pk_un (by omega))
  refine go_istore1 C (pc := 10) dX8_change_10 ?_
  refine go_aload0 C (pc := 11) dX8_change_11 ?_
  refine go_get C (pc := 12) 25 (by decide) rfl rfl 12 (by decide) rfl rfl hi_X8_change_RX8 lk_X8_change_106 dX8_change_12 ?_
  refine go_top (y := b2i wr) e2 ?_
  refine go_if_eq C (pc := 15) (tgt := 24) dX8_change_15 (by decide) (fun h15 => ?_) (fun h15 => ?_)
  · refine go_aload0 C (pc := 24) dX8_change_24 ?_
    refine go_cvV0 C (pc := 25) obj_25 (c_X8_record C.fl C.ok (mset μ 25 u) hM hT (show MH (mset μ 25 u) q h from ⟨(g 2 (by decide)).trans hH.1, hH.2⟩)) gX8_change_X8_record rfl rfl yok_X8_record ⟨rfl, rfl⟩ ⟨Nat.le_of_ble_eq_true rfl, Nat.le_of_ble_eq_true rfl⟩ (Nat.le_of_ble_eq_true rfl) ⟨Nat.zero_le _, Nat.zero_le _⟩ dX8_change_25 (fun μ3 hc3 => ?_)
    obtain ⟨hH1, hf1, hsm1⟩ := hc3
    have hv : dfa (μ 29) w = 4 := hq1 (bpos h15)
    obtain ⟨M, hMM⟩ : ∃ M, M = μ3 := ⟨_, rfl⟩
    rw [← hMM] at hH1 hf1 hsm1
    refine go_mem hMM.symm ?_
    have e29 : M 29 = μ 29 := hsm1 29 (by decide)
    have hM2 : Mo M n pr th := Mo.same (μ := mset μ 25 u) hM hsm1 (by decide)
    have hl2 : M 25 6 = nI w := (hf1 6 (by decide)).trans ((g 6 (by decide)).trans hl)
    refine go_aload0 C (pc := 28) dX8_change_28 ?_
    refine go_iconst C (pc := 29) (v := 1) (by decide) dX8_change_29 ?_
    refine go_ciV1 C (pc := 30) obj_25 (c_X8_go1 C.fl C.ok M w hM2 hT hl2 hw (by rw [e29]; exact hv)) gX8_change_X8_go rfl rfl yok_X8_go ⟨rfl, rfl⟩ ⟨Nat.le_of_ble_eq_true rfl, Nat.le_of_ble_eq_true rfl⟩ (Nat.le_of_ble_eq_true rfl) ⟨Nat.zero_le _, Nat.zero_le _⟩ dX8_change_30 (fun r4 μ4 hc4 => ?_)
    obtain ⟨rfl, j4, j2, js⟩ := hc4
    rw [e29] at j4
    refine go_top (y := nI (runC (μ 29) w (w + 1) 0 (0, (n, pr, th))).1) (by rw [← e29]) ?_
    have g := g
    have k47 : ∀ f, f ≠ 11 → f ≠ 12 → f ≠ 2 → _ = u f := fun f a b a2 => (j2 f a b).trans (hf1 f a2)
    exact go_iret C hr dX8_change_33 (Or.inr ⟨hv, rfl, j4, mh_same2 hH1 j2 js, (k47 7 (by decide) (by decide) (by decide)).trans g7, ⟨(k47 4 (by decide) (by decide) (by decide)).trans (g 4 (by decide)), (k47 6 (by decide) (by decide) (by decide)).trans (g 6 (by decide))⟩, same_tr (same_tr (same_ms (f := u) (L := [25]) same_rf (by decide)) hsm1 (L := [25, 27]) (by decide) (by decide)) js (by decide) (by decide)⟩)
  · refine go_aload0 C (pc := 18) dX8_change_18 ?_
    refine go_iconst C (pc := 19) (v := 1) (by decide) dX8_change_19 ?_
    refine go_ciV1 C (pc := 20) obj_25 (c_X8_throwing C.fl C.ok _ _ ) gX8_change_X8_throwing rfl rfl yok_X8_throwing ⟨rfl, rfl⟩ ⟨Nat.le_of_ble_eq_true rfl, Nat.le_of_ble_eq_true rfl⟩ (Nat.le_of_ble_eq_true rfl) ⟨Nat.zero_le _, Nat.zero_le _⟩ dX8_change_20 (fun r5 μ5 hc5 => ?_)
    obtain ⟨rfl, hm5⟩ := hc5
    replace hm5 := hm5.symm
    subst hm5
    exact go_iret C hr dX8_change_23 (Or.inl ⟨fE_no (hq2 (bneg h15)), rfl, ⟨⟨g 2 (by decide), g 4 (by decide), g 6 (by decide)⟩, (by repeat' (first | exact same_rf | refine same_ms ?_ (by decide)))⟩⟩)

