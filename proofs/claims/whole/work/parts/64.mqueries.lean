/-! ===== ThornCoresModel: the questions ===== -/
/-- what a question of the model leaves -/
def kp (μ μ' : Mem) (L : List Nat) : Prop := (μ' 25 2 = μ 25 2 ∧ μ' 25 4 = μ 25 4 ∧ μ' 25 6 = μ 25 6) ∧ same μ μ' L
theorem cd1_no {c p0 : Int32} (h : ¬ cd1 c p0 = 0) : hasB c p0 = false ∧ cd1 c p0 = 1 := by
  unfold cd1 at *
  cases q : hasB c p0
  · exact ⟨rfl, if_neg (by decide)⟩
  · rw [q, if_pos rfl] at h; exact absurd rfl h
theorem cd1_ex {p0 : Int32} {n : Nat} (hn : n ≤ 16) (h : cd1 (nI n) p0 = 0) : ∃ j, j < n ∧ p0 = nI j := has_ex rfl hn (by
  unfold cd1 at h
  cases q : hasB (nI n) p0
  · rw [q, if_neg (by decide)] at h; exact absurd h (by decide)
  · rfl)
theorem cdK_no {k : Int32} (h : ¬ cdK k = 0) : inR k 0 15 = false ∧ cdK k = 1 := by
  unfold cdK at *
  cases q : inR k 0 15
  · exact ⟨rfl, if_neg (by decide)⟩
  · rw [q, if_pos rfl] at h; exact absurd rfl h
theorem inR_ex {k : Int32} (h : inR k 0 15 = true) : ∃ j, j ≤ 15 ∧ k = nI j := by
  unfold inR at h
  simp only [Bool.and_eq_true, Bool.not_eq_true', decide_eq_false_iff_not] at h
  obtain ⟨j, hj, e⟩ := nI_of2 (x := k) (M := 15) (n := 15) (by decide) h.1 (Int32.not_lt.mp h.2)
  exact ⟨j, hj, e⟩
theorem cdK_ex {k : Int32} (h : cdK k = 0) : ∃ j, j ≤ 15 ∧ k = nI j := inR_ex (by
  unfold cdK at h
  cases q : inR k 0 15
  · rw [q, if_neg (by decide)] at h; exact absurd h (by decide)
  · rfl)
theorem dz {x : Int32} (h : ¬ b2i (decide (x = 0)) = 0) : x = 0 := of_decide_eq_true (bneg h)
theorem dnz {x : Int32} (h : b2i (decide (x = 0)) = 0) : ¬ x = 0 := of_decide_eq_false (bpos h)
/-- the greatest core number of a plant that isn't propped up, of the first i -/
def mxN (th : Nat → Int32) (pr : Int32) (n : Nat) : Nat → Nat
  | 0 => 0
  | i + 1 => if bt pr i = true then mxN th pr n i else if mxN th pr n i < coreN th pr n i then coreN th pr n i else mxN th pr n i
theorem mx_le (th : Nat → Int32) (pr : Int32) (n : Nat) : ∀ i, mxN th pr n i ≤ 15
  | 0 => Nat.zero_le _
  | i + 1 => by
    rw [mxN]
    split
    · exact mx_le th pr n i
    · split
      · exact topK_le _ _
      · exact mx_le th pr n i
theorem mx_ge {th : Nat → Int32} {pr : Int32} {n : Nat} : ∀ i x, x < i → bt pr x = false → coreN th pr n x ≤ mxN th pr n i
  | 0, x, h, _ => absurd h (Nat.not_lt_zero x)
  | i + 1, x, h, hu => by
    rw [mxN]
    rcases Nat.lt_or_ge x i with w | w
    · have := mx_ge (th := th) (n := n) i x w hu
      split
      · exact this
      · split <;> omega
    · have e : x = i := by omega
      subst e
      rw [if_neg (by rw [hu]; decide)]
      split <;> omega
theorem mx_at {th : Nat → Int32} {pr : Int32} {n : Nat} : ∀ i, 0 < mxN th pr n i → ∃ x, x < i ∧ bt pr x = false ∧ coreN th pr n x = mxN th pr n i
  | 0, h => absurd h (Nat.not_lt_zero _)
  | i + 1, h => by
    rw [mxN] at h ⊢
    by_cases a : bt pr i = true
    · rw [if_pos a] at h ⊢
      obtain ⟨x, h1, h2, h3⟩ := mx_at i h
      exact ⟨x, by omega, h2, h3⟩
    · rw [if_neg a] at h ⊢
      by_cases b : mxN th pr n i < coreN th pr n i
      · rw [if_pos b]; exact ⟨i, Nat.lt_succ_self i, by cases q : bt pr i; rfl; exact absurd q a, rfl⟩
      · rw [if_neg b] at h ⊢
        obtain ⟨x, h1, h2, h3⟩ := mx_at i h
        exact ⟨x, by omega, h2, h3⟩
theorem mx_free {th : Nat → Int32} {pr : Int32} {n : Nat} (hT : TV n pr th) : freeN th pr n = mxN th pr n n := by
  have hn := hT.1
  refine topK_eq (mx_le th pr n n) (fun h => ?_) (fun k h1 h2 => ?_)
  · obtain ⟨x, h1, h2, h3⟩ := mx_at n h
    have hb := (core_iff (th := th) (pr := pr) (n := n) (j := x) (k := mxN th pr n n) hn h1 (mx_le th pr n n)).mpr (by omega)
    unfold freeF
    rw [decide_eq_false]
    · rfl
    · intro q
      have : bt (coreI th pr (mxN th pr n n) (allI n) &&& (pr ^^^ (-1))) x = false := by rw [q]; exact b_0 x
      rw [b_and, bt_m1 (by omega), hb, h2] at this
      cases this
  · unfold freeF
    rw [decide_eq_true]
    · rfl
    · refine b_ext (fun i hi => ?_)
      rw [b_and, b_0, bt_m1 hi]
      cases q : bt (coreI th pr k (allI n)) i
      · rfl
      · cases q2 : bt pr i
        · exfalso
          have hin : i < n := by
            have := core_sub i q
            rw [bt_all hn] at this
            exact of_decide_eq_true this
          have := (core_iff hn hin h2).mp q
          have := mx_ge (th := th) (n := n) n i hin q2
          omega
        · rfl
theorem yok_X8_neighbors : yOK yX8_neighbors 1 := by unfold yOK; decide +kernel
theorem hi_X8_neighbors_RX8 : ∀ w ∈ wsX80, w ∈ wsX8_neighbors := by decide +kernel
theorem lk_X8_neighbors_7 : Cond.fieldLink RX8 7 "ThornCoresModel" "s" "[I" ∈ wsX8_neighbors := by decide +kernel
set_option maxRecDepth 20000 in
set_option maxHeartbeats 4000000 in
theorem c_X8_neighbors {l : Launch} {D : va_G} {ad : Nat → Nat} {cI cL : ClassId} (hfl : l.flags = flags0) (hok : adOK ad) (μ : Mem) (p0 : Int32) {n : Nat} {pr : Int32} {th : Nat → Int32} (hM : Mo μ n pr th) (hT : TV n pr th) : CtI l D ad cI cL yX8_neighbors wsX8_neighbors (RM 3 64) [.ref (ad 25), .int p0] μ (fun (r : Int32) (μ' : Mem) => ((hasB (nI n) p0 = false ∧ μ' 25 7 = 1) ∨ ∃ j, j < n ∧ p0 = nI j ∧ (r = th j) ∧ μ' 25 7 = 0) ∧ kp μ μ' [25]) := by
  refine ct_i (cc := cX8_neighbors) (maxL := 2) (own := RX8) .int hfl hok (by decide) rfl rfl rfl (Nat.le_of_ble_eq_true rfl) (fun p e s m below meth c C hr => ?_)
  refine go_lv (lv' := [some (.ref (ad 25)), some (.int p0)]) rfl ?_
  obtain ⟨hs0, hs1, hth⟩ := id hM
  have hn := hT.1
  refine go_aload0 C (pc := 0) dX8_neighbors_0 ?_
  refine go_iload1 C (pc := 1) dX8_neighbors_1 ?_
  refine go_ciV1 C (pc := 2) obj_25 (c_X8_isThere C.fl C.ok _ _ hM hT) gX8_neighbors_X8_isThere rfl rfl yok_X8_isThere ⟨rfl, rfl⟩ ⟨Nat.le_of_ble_eq_true rfl, Nat.le_of_ble_eq_true rfl⟩ (Nat.le_of_ble_eq_true rfl) ⟨Nat.zero_le _, Nat.zero_le _⟩ dX8_neighbors_2 (fun r1 μ1 hc1 => ?_)
  obtain ⟨rfl, hm1⟩ := hc1
  replace hm1 := hm1.symm
  subst hm1
  refine go_if_eq C (pc := 5) (tgt := 19) dX8_neighbors_5 (by decide) (fun h5 => ?_) (fun h5 => ?_)
  · refine go_iconst C (pc := 19) (v := 0) (by decide) dX8_neighbors_19 ?_
    exact go_iret C hr dX8_neighbors_20 (⟨Or.inl (cd1_no (dnz h5)), ⟨⟨rfl, rfl, rfl⟩, (by repeat' (first | exact same_rf | refine same_ms ?_ (by decide)))⟩⟩)
  · have hcd := dz h5
    obtain ⟨j, hj, rfl⟩ := cd1_ex hn hcd
    refine go_aload0 C (pc := 8) dX8_neighbors_8 ?_
    refine go_get C (pc := 9) 25 (by decide) rfl rfl 0 (by decide) rfl rfl hi_X8_neighbors_RX8 lk_X8_neighbors_7 dX8_neighbors_9 ?_
    refine go_iconst C (pc := 12) (v := 2) (by decide) dX8_neighbors_12 ?_
    
    refine go_iload1 C (pc := 13) dX8_neighbors_13 ?_
    refine go_top (y := nI (j)) (rfl) ?_
    refine go_iadd C (pc := 14) dX8_neighbors_14 ?_
    refine go_top (y := nI (2 + j)) (by rw [show (2 : Int32) = nI 2 from by decide +kernel, nI_add]) ?_
    refine go_ialdN C (pc := 15) arr_26 (i := (2 + j)) (by omega) dX8_neighbors_15 ?_
    refine go_top (y := th j) (hth _ (by omega)) ?_
    refine go_goto C (pc := 16) (tgt := 20) dX8_neighbors_16 (by decide) ?_
    exact go_iret C hr dX8_neighbors_20 (⟨Or.inr ⟨j, hj, rfl, rfl, hcd⟩, ⟨⟨rfl, rfl, rfl⟩, (by repeat' (first | exact same_rf | refine same_ms ?_ (by decide)))⟩⟩)

theorem yok_X8_isPropped : yOK yX8_isPropped 1 := by unfold yOK; decide +kernel
theorem hi_X8_isPropped_RX8 : ∀ w ∈ wsX80, w ∈ wsX8_isPropped := by decide +kernel
theorem lk_X8_isPropped_7 : Cond.fieldLink RX8 7 "ThornCoresModel" "s" "[I" ∈ wsX8_isPropped := by decide +kernel
set_option maxRecDepth 20000 in
set_option maxHeartbeats 4000000 in
theorem c_X8_isPropped {l : Launch} {D : va_G} {ad : Nat → Nat} {cI cL : ClassId} (hfl : l.flags = flags0) (hok : adOK ad) (μ : Mem) (p0 : Int32) {n : Nat} {pr : Int32} {th : Nat → Int32} (hM : Mo μ n pr th) (hT : TV n pr th) : CtI l D ad cI cL yX8_isPropped wsX8_isPropped (RM 3 64) [.ref (ad 25), .int p0] μ (fun (r : Int32) (μ' : Mem) => ((hasB (nI n) p0 = false ∧ μ' 25 7 = 1) ∨ ∃ j, j < n ∧ p0 = nI j ∧ (r = b2i (bt pr j)) ∧ μ' 25 7 = 0) ∧ kp μ μ' [25]) := by
  refine ct_i (cc := cX8_isPropped) (maxL := 2) (own := RX8) .boolean hfl hok (by decide) rfl rfl rfl (Nat.le_of_ble_eq_true rfl) (fun p e s m below meth c C hr => ?_)
  refine go_lv (lv' := [some (.ref (ad 25)), some (.int p0)]) rfl ?_
  obtain ⟨hs0, hs1, hth⟩ := id hM
  have hn := hT.1
  refine go_aload0 C (pc := 0) dX8_isPropped_0 ?_
  refine go_iload1 C (pc := 1) dX8_isPropped_1 ?_
  refine go_ciV1 C (pc := 2) obj_25 (c_X8_isThere C.fl C.ok _ _ hM hT) gX8_isPropped_X8_isThere rfl rfl yok_X8_isThere ⟨rfl, rfl⟩ ⟨Nat.le_of_ble_eq_true rfl, Nat.le_of_ble_eq_true rfl⟩ (Nat.le_of_ble_eq_true rfl) ⟨Nat.zero_le _, Nat.zero_le _⟩ dX8_isPropped_2 (fun r1 μ1 hc1 => ?_)
  obtain ⟨rfl, hm1⟩ := hc1
  replace hm1 := hm1.symm
  subst hm1
  refine go_if_eq C (pc := 5) (tgt := 25) dX8_isPropped_5 (by decide) (fun h5 => ?_) (fun h5 => ?_)
  · refine go_iconst C (pc := 25) (v := 0) (by decide) dX8_isPropped_25 ?_
    exact go_zret C hr dX8_isPropped_26 (by first | decide | exact b2i_01 _) (⟨Or.inl (cd1_no (dnz h5)), ⟨⟨rfl, rfl, rfl⟩, (by repeat' (first | exact same_rf | refine same_ms ?_ (by decide)))⟩⟩)
  · have hcd := dz h5
    obtain ⟨j, hj, rfl⟩ := cd1_ex hn hcd
    refine go_aload0 C (pc := 8) dX8_isPropped_8 ?_
    refine go_get C (pc := 9) 25 (by decide) rfl rfl 0 (by decide) rfl rfl hi_X8_isPropped_RX8 lk_X8_isPropped_7 dX8_isPropped_9 ?_
    refine go_iconst C (pc := 12) (v := 1) (by decide) dX8_isPropped_12 ?_
    refine go_top (y := nI 1) (by first | rfl | decide +kernel) ?_
    refine go_ialdN C (pc := 13) arr_26 (i := 1) (by omega) dX8_isPropped_13 ?_
    refine go_top (y := pr) hs1 ?_
    refine go_iload1 C (pc := 14) dX8_isPropped_14 ?_
    refine go_ciS2 C (pc := 15) (c_X8_has C.fl C.ok _ _ _ (by omega)) gX8_isPropped_X8_has rfl yok_X8_has ⟨rfl, rfl⟩ ⟨Nat.le_of_ble_eq_true rfl, Nat.le_of_ble_eq_true rfl⟩ (Nat.le_of_ble_eq_true rfl) ⟨Nat.zero_le _, Nat.zero_le _⟩ dX8_isPropped_15 (fun r3 μ3 hc3 => ?_)
    obtain ⟨rfl, hm3⟩ := hc3
    replace hm3 := hm3.symm
    subst hm3
    refine go_if_eq C (pc := 18) (tgt := 25) dX8_isPropped_18 (by decide) (fun h18 => ?_) (fun h18 => ?_)
    · refine go_iconst C (pc := 25) (v := 0) (by decide) dX8_isPropped_25 ?_
      exact go_zret C hr dX8_isPropped_26 (by first | decide | exact b2i_01 _) (⟨Or.inr ⟨j, hj, rfl, by rw [bpos h18]; rfl, hcd⟩, ⟨⟨rfl, rfl, rfl⟩, (by repeat' (first | exact same_rf | refine same_ms ?_ (by decide)))⟩⟩)
    · refine go_iconst C (pc := 21) (v := 1) (by decide) dX8_isPropped_21 ?_
      refine go_goto C (pc := 22) (tgt := 26) dX8_isPropped_22 (by decide) ?_
      exact go_zret C hr dX8_isPropped_26 (by first | decide | exact b2i_01 _) (⟨Or.inr ⟨j, hj, rfl, by rw [bneg h18]; rfl, hcd⟩, ⟨⟨rfl, rfl, rfl⟩, (by repeat' (first | exact same_rf | refine same_ms ?_ (by decide)))⟩⟩)

theorem yok_X8_coreOf : yOK yX8_coreOf 1 := by unfold yOK; decide +kernel
set_option maxRecDepth 20000 in
set_option maxHeartbeats 4000000 in
theorem c_X8_coreOf {l : Launch} {D : va_G} {ad : Nat → Nat} {cI cL : ClassId} (hfl : l.flags = flags0) (hok : adOK ad) (μ : Mem) (p0 : Int32) {n : Nat} {pr : Int32} {th : Nat → Int32} (hM : Mo μ n pr th) (hT : TV n pr th) : CtI l D ad cI cL yX8_coreOf wsX8_coreOf (RM 4 92) [.ref (ad 25), .int p0] μ (fun (r : Int32) (μ' : Mem) => ((hasB (nI n) p0 = false ∧ μ' 25 7 = 1) ∨ ∃ j, j < n ∧ p0 = nI j ∧ (r = nI (coreN th pr n j)) ∧ μ' 25 7 = 0) ∧ kp μ μ' [25]) := by
  refine ct_i (cc := cX8_coreOf) (maxL := 2) (own := RX8) .int hfl hok (by decide) rfl rfl rfl (Nat.le_of_ble_eq_true rfl) (fun p e s m below meth c C hr => ?_)
  refine go_lv (lv' := [some (.ref (ad 25)), some (.int p0)]) rfl ?_
  obtain ⟨hs0, hs1, hth⟩ := id hM
  have hn := hT.1
  refine go_aload0 C (pc := 0) dX8_coreOf_0 ?_
  refine go_iload1 C (pc := 1) dX8_coreOf_1 ?_
  refine go_ciV1 C (pc := 2) obj_25 (c_X8_isThere C.fl C.ok _ _ hM hT) gX8_coreOf_X8_isThere rfl rfl yok_X8_isThere ⟨rfl, rfl⟩ ⟨Nat.le_of_ble_eq_true rfl, Nat.le_of_ble_eq_true rfl⟩ (Nat.le_of_ble_eq_true rfl) ⟨Nat.zero_le _, Nat.zero_le _⟩ dX8_coreOf_2 (fun r1 μ1 hc1 => ?_)
  obtain ⟨rfl, hm1⟩ := hc1
  replace hm1 := hm1.symm
  subst hm1
  refine go_if_eq C (pc := 5) (tgt := 16) dX8_coreOf_5 (by decide) (fun h5 => ?_) (fun h5 => ?_)
  · refine go_iconst C (pc := 16) (v := 0) (by decide) dX8_coreOf_16 ?_
    exact go_iret C hr dX8_coreOf_17 (⟨Or.inl (cd1_no (dnz h5)), ⟨⟨rfl, rfl, rfl⟩, (by repeat' (first | exact same_rf | refine same_ms ?_ (by decide)))⟩⟩)
  · have hcd := dz h5
    obtain ⟨j, hj, rfl⟩ := cd1_ex hn hcd
    refine go_aload0 C (pc := 8) dX8_coreOf_8 ?_
    refine go_iload1 C (pc := 9) dX8_coreOf_9 ?_
    refine go_ciV1 C (pc := 10) obj_25 (c_X8_coreNumber C.fl C.ok _ _ hM hT hj) gX8_coreOf_X8_coreNumber rfl rfl yok_X8_coreNumber ⟨rfl, rfl⟩ ⟨Nat.le_of_ble_eq_true rfl, Nat.le_of_ble_eq_true rfl⟩ (Nat.le_of_ble_eq_true rfl) ⟨Nat.zero_le _, Nat.zero_le _⟩ dX8_coreOf_10 (fun r3 μ3 hc3 => ?_)
    obtain ⟨rfl, hm3⟩ := hc3
    replace hm3 := hm3.symm
    subst hm3
    refine go_goto C (pc := 13) (tgt := 17) dX8_coreOf_13 (by decide) ?_
    exact go_iret C hr dX8_coreOf_17 (⟨Or.inr ⟨j, hj, rfl, rfl, hcd⟩, ⟨⟨rfl, rfl, rfl⟩, (by repeat' (first | exact same_rf | refine same_ms ?_ (by decide)))⟩⟩)

theorem yok_X8_coreByRounds : yOK yX8_coreByRounds 1 := by unfold yOK; decide +kernel
set_option maxRecDepth 20000 in
set_option maxHeartbeats 4000000 in
theorem c_X8_coreByRounds {l : Launch} {D : va_G} {ad : Nat → Nat} {cI cL : ClassId} (hfl : l.flags = flags0) (hok : adOK ad) (μ : Mem) (p0 : Int32) {n : Nat} {pr : Int32} {th : Nat → Int32} (hM : Mo μ n pr th) (hT : TV n pr th) : CtI l D ad cI cL yX8_coreByRounds wsX8_coreByRounds (RM 4 92) [.ref (ad 25), .int p0] μ (fun (r : Int32) (μ' : Mem) => ((hasB (nI n) p0 = false ∧ μ' 25 7 = 1) ∨ ∃ j, j < n ∧ p0 = nI j ∧ (r = nI (coreN th pr n j)) ∧ μ' 25 7 = 0) ∧ kp μ μ' [25]) := by
  refine ct_i (cc := cX8_coreByRounds) (maxL := 2) (own := RX8) .int hfl hok (by decide) rfl rfl rfl (Nat.le_of_ble_eq_true rfl) (fun p e s m below meth c C hr => ?_)
  refine go_lv (lv' := [some (.ref (ad 25)), some (.int p0)]) rfl ?_
  obtain ⟨hs0, hs1, hth⟩ := id hM
  have hn := hT.1
  refine go_aload0 C (pc := 0) dX8_coreByRounds_0 ?_
  refine go_iload1 C (pc := 1) dX8_coreByRounds_1 ?_
  refine go_ciV1 C (pc := 2) obj_25 (c_X8_isThere C.fl C.ok _ _ hM hT) gX8_coreByRounds_X8_isThere rfl rfl yok_X8_isThere ⟨rfl, rfl⟩ ⟨Nat.le_of_ble_eq_true rfl, Nat.le_of_ble_eq_true rfl⟩ (Nat.le_of_ble_eq_true rfl) ⟨Nat.zero_le _, Nat.zero_le _⟩ dX8_coreByRounds_2 (fun r1 μ1 hc1 => ?_)
  obtain ⟨rfl, hm1⟩ := hc1
  replace hm1 := hm1.symm
  subst hm1
  refine go_if_eq C (pc := 5) (tgt := 16) dX8_coreByRounds_5 (by decide) (fun h5 => ?_) (fun h5 => ?_)
  · refine go_iconst C (pc := 16) (v := 0) (by decide) dX8_coreByRounds_16 ?_
    exact go_iret C hr dX8_coreByRounds_17 (⟨Or.inl (cd1_no (dnz h5)), ⟨⟨rfl, rfl, rfl⟩, (by repeat' (first | exact same_rf | refine same_ms ?_ (by decide)))⟩⟩)
  · have hcd := dz h5
    obtain ⟨j, hj, rfl⟩ := cd1_ex hn hcd
    refine go_aload0 C (pc := 8) dX8_coreByRounds_8 ?_
    refine go_iload1 C (pc := 9) dX8_coreByRounds_9 ?_
    refine go_ciV1 C (pc := 10) obj_25 (c_X8_coreNumber C.fl C.ok _ _ hM hT hj) gX8_coreByRounds_X8_coreNumber rfl rfl yok_X8_coreNumber ⟨rfl, rfl⟩ ⟨Nat.le_of_ble_eq_true rfl, Nat.le_of_ble_eq_true rfl⟩ (Nat.le_of_ble_eq_true rfl) ⟨Nat.zero_le _, Nat.zero_le _⟩ dX8_coreByRounds_10 (fun r3 μ3 hc3 => ?_)
    obtain ⟨rfl, hm3⟩ := hc3
    replace hm3 := hm3.symm
    subst hm3
    refine go_goto C (pc := 13) (tgt := 17) dX8_coreByRounds_13 (by decide) ?_
    exact go_iret C hr dX8_coreByRounds_17 (⟨Or.inr ⟨j, hj, rfl, rfl, hcd⟩, ⟨⟨rfl, rfl, rfl⟩, (by repeat' (first | exact same_rf | refine same_ms ?_ (by decide)))⟩⟩)

theorem yok_X8_core : yOK yX8_core 1 := by unfold yOK; decide +kernel
set_option maxRecDepth 20000 in
set_option maxHeartbeats 4000000 in
theorem c_X8_core {l : Launch} {D : va_G} {ad : Nat → Nat} {cI cL : ClassId} (hfl : l.flags = flags0) (hok : adOK ad) (μ : Mem) (p0 : Int32) {n : Nat} {pr : Int32} {th : Nat → Int32} (hM : Mo μ n pr th) (hT : TV n pr th) : CtI l D ad cI cL yX8_core wsX8_core (RM 3 70) [.ref (ad 25), .int p0] μ (fun (r : Int32) (μ' : Mem) => ((inR p0 0 15 = false ∧ μ' 25 7 = 1) ∨ ∃ k, k ≤ 15 ∧ p0 = nI k ∧ (r = coreI th pr k (allI n)) ∧ μ' 25 7 = 0) ∧ kp μ μ' [25]) := by
  refine ct_i (cc := cX8_core) (maxL := 2) (own := RX8) .int hfl hok (by decide) rfl rfl rfl (Nat.le_of_ble_eq_true rfl) (fun p e s m below meth c C hr => ?_)
  refine go_lv (lv' := [some (.ref (ad 25)), some (.int p0)]) rfl ?_
  obtain ⟨hs0, hs1, hth⟩ := id hM
  have hn := hT.1
  refine go_aload0 C (pc := 0) dX8_core_0 ?_
  refine go_iload1 C (pc := 1) dX8_core_1 ?_
  refine go_ciV1 C (pc := 2) obj_25 (c_X8_isDepth C.fl C.ok _ _ ) gX8_core_X8_isDepth rfl rfl yok_X8_isDepth ⟨rfl, rfl⟩ ⟨Nat.le_of_ble_eq_true rfl, Nat.le_of_ble_eq_true rfl⟩ (Nat.le_of_ble_eq_true rfl) ⟨Nat.zero_le _, Nat.zero_le _⟩ dX8_core_2 (fun r1 μ1 hc1 => ?_)
  obtain ⟨rfl, hm1⟩ := hc1
  replace hm1 := hm1.symm
  subst hm1
  refine go_if_eq C (pc := 5) (tgt := 16) dX8_core_5 (by decide) (fun h5 => ?_) (fun h5 => ?_)
  · refine go_iconst C (pc := 16) (v := 0) (by decide) dX8_core_16 ?_
    exact go_iret C hr dX8_core_17 (⟨Or.inl (cdK_no (dnz h5)), ⟨⟨rfl, rfl, rfl⟩, (by repeat' (first | exact same_rf | refine same_ms ?_ (by decide)))⟩⟩)
  · have hcd := dz h5
    obtain ⟨k, hk, rfl⟩ := cdK_ex hcd
    refine go_aload0 C (pc := 8) dX8_core_8 ?_
    refine go_iload1 C (pc := 9) dX8_core_9 ?_
    refine go_ciV1 C (pc := 10) obj_25 (c_X8_cored C.fl C.ok _ _ hM hT (by omega)) gX8_core_X8_cored rfl rfl yok_X8_cored ⟨rfl, rfl⟩ ⟨Nat.le_of_ble_eq_true rfl, Nat.le_of_ble_eq_true rfl⟩ (Nat.le_of_ble_eq_true rfl) ⟨Nat.zero_le _, Nat.zero_le _⟩ dX8_core_10 (fun r3 μ3 hc3 => ?_)
    obtain ⟨rfl, hm3⟩ := hc3
    replace hm3 := hm3.symm
    subst hm3
    refine go_goto C (pc := 13) (tgt := 17) dX8_core_13 (by decide) ?_
    exact go_iret C hr dX8_core_17 (⟨Or.inr ⟨k, hk, rfl, rfl, hcd⟩, ⟨⟨rfl, rfl, rfl⟩, (by repeat' (first | exact same_rf | refine same_ms ?_ (by decide)))⟩⟩)

theorem cdT_ex {th : Nat → Int32} {p0 p1 : Int32} {n : Nat} {pr : Int32} (hT : TV n pr th) (h : cdT (nI n) th p0 p1 = 0) : ∃ i j, i < n ∧ j < n ∧ bt (th i) j = true ∧ p0 = nI i ∧ p1 = nI j := by
  have hn := hT.1
  unfold cdT at h
  by_cases a : hasB (nI n) p0 = true
  · rw [if_pos a] at h
    by_cases b : hasB (nI n) p1 = true
    · rw [if_pos b] at h
      obtain ⟨i, hi, rfl⟩ := has_ex rfl hn a
      obtain ⟨j, hj, rfl⟩ := has_ex rfl hn b
      rw [bndB_nI rfl hT (by omega) (by omega)] at h
      cases q : bt (th i) j
      · rw [q, if_neg (by decide)] at h; exact absurd h (by decide)
      · exact ⟨i, j, hi, hj, q, rfl, rfl⟩
    · rw [if_neg b] at h; exact absurd h (by decide)
  · rw [if_neg a] at h; exact absurd h (by decide)
theorem yok_X8_support : yOK yX8_support 2 := by unfold yOK; decide +kernel
theorem hi_X8_support_RX8 : ∀ w ∈ wsX80, w ∈ wsX8_support := by decide +kernel
theorem lk_X8_support_7 : Cond.fieldLink RX8 7 "ThornCoresModel" "s" "[I" ∈ wsX8_support := by decide +kernel
set_option maxRecDepth 20000 in
set_option maxHeartbeats 4000000 in
theorem c_X8_support {l : Launch} {D : va_G} {ad : Nat → Nat} {cI cL : ClassId} (hfl : l.flags = flags0) (hok : adOK ad) (μ : Mem) (p0 p1 : Int32) {n : Nat} {pr : Int32} {th : Nat → Int32} (hM : Mo μ n pr th) (hT : TV n pr th) : CtI l D ad cI cL yX8_support wsX8_support (RM 3 65) [.ref (ad 25), .int p0, .int p1] μ (fun (r : Int32) (μ' : Mem) => ((¬ cdT (nI n) th p0 p1 = 0 ∧ μ' 25 7 = cdT (nI n) th p0 p1) ∨ ∃ i j, i < n ∧ j < n ∧ bt (th i) j = true ∧ p0 = nI i ∧ p1 = nI j ∧ (r = nI (ct (th i &&& th j))) ∧ μ' 25 7 = 0) ∧ kp μ μ' [25]) := by
  refine ct_i (cc := cX8_support) (maxL := 3) (own := RX8) .int hfl hok (by decide) rfl rfl rfl (Nat.le_of_ble_eq_true rfl) (fun p e s m below meth c C hr => ?_)
  refine go_lv (lv' := [some (.ref (ad 25)), some (.int p0), some (.int p1)]) rfl ?_
  obtain ⟨hs0, hs1, hth⟩ := id hM
  have hn := hT.1
  refine go_aload0 C (pc := 0) dX8_support_0 ?_
  refine go_iload1 C (pc := 1) dX8_support_1 ?_
  refine go_iload2 C (pc := 2) dX8_support_2 ?_
  refine go_ciV2 C (pc := 3) obj_25 (c_X8_isThorn C.fl C.ok _ _ _ hM hT) gX8_support_X8_isThorn rfl rfl yok_X8_isThorn ⟨rfl, rfl⟩ ⟨Nat.le_of_ble_eq_true rfl, Nat.le_of_ble_eq_true rfl⟩ (Nat.le_of_ble_eq_true rfl) ⟨Nat.zero_le _, Nat.zero_le _⟩ dX8_support_3 (fun r1 μ1 hc1 => ?_)
  obtain ⟨rfl, hm1⟩ := hc1
  replace hm1 := hm1.symm
  subst hm1
  refine go_if_eq C (pc := 6) (tgt := 32) dX8_support_6 (by decide) (fun h6 => ?_) (fun h6 => ?_)
  · refine go_iconst C (pc := 32) (v := 0) (by decide) dX8_support_32 ?_
    exact go_iret C hr dX8_support_33 (⟨Or.inl ⟨dnz h6, rfl⟩, ⟨⟨rfl, rfl, rfl⟩, (by repeat' (first | exact same_rf | refine same_ms ?_ (by decide)))⟩⟩)
  · have hcd := dz h6
    obtain ⟨i, j, hi, hj, hb, rfl, rfl⟩ := cdT_ex hT hcd
    refine go_aload0 C (pc := 9) dX8_support_9 ?_
    refine go_get C (pc := 10) 25 (by decide) rfl rfl 0 (by decide) rfl rfl hi_X8_support_RX8 lk_X8_support_7 dX8_support_10 ?_
    refine go_iconst C (pc := 13) (v := 2) (by decide) dX8_support_13 ?_
    refine go_iload1 C (pc := 14) dX8_support_14 ?_
    refine go_top (y := nI (i)) (rfl) ?_
    refine go_iadd C (pc := 15) dX8_support_15 ?_
    refine go_top (y := nI (2 + i)) (by rw [show (2 : Int32) = nI 2 from by decide +kernel, nI_add]) ?_
    refine go_ialdN C (pc := 16) arr_26 (i := (2 + i)) (by omega) dX8_support_16 ?_
    refine go_top (y := th i) (hth _ (by omega)) ?_
    refine go_aload0 C (pc := 17) dX8_support_17 ?_
    refine go_get C (pc := 18) 25 (by decide) rfl rfl 0 (by decide) rfl rfl hi_X8_support_RX8 lk_X8_support_7 dX8_support_18 ?_
    refine go_iconst C (pc := 21) (v := 2) (by decide) dX8_support_21 ?_
    refine go_iload2 C (pc := 22) dX8_support_22 ?_
    refine go_top (y := nI (j)) (rfl) ?_
    refine go_iadd C (pc := 23) dX8_support_23 ?_
    refine go_top (y := nI (2 + j)) (by rw [show (2 : Int32) = nI 2 from by decide +kernel, nI_add]) ?_
    refine go_ialdN C (pc := 24) arr_26 (i := (2 + j)) (by omega) dX8_support_24 ?_
    refine go_top (y := th j) (hth _ (by omega)) ?_
    refine go_iand C (pc := 25) dX8_support_25 ?_
    refine go_ciS1 C (pc := 26) (c_X8_bits C.fl C.ok _ _ ) gX8_support_X8_bits rfl yok_X8_bits ⟨rfl, rfl⟩ ⟨Nat.le_of_ble_eq_true rfl, Nat.le_of_ble_eq_true rfl⟩ (Nat.le_of_ble_eq_true rfl) ⟨Nat.zero_le _, Nat.zero_le _⟩ dX8_support_26 (fun r3 μ3 hc3 => ?_)
    obtain ⟨rfl, hm3⟩ := hc3
    replace hm3 := hm3.symm
    subst hm3
    refine go_goto C (pc := 29) (tgt := 33) dX8_support_29 (by decide) ?_
    exact go_iret C hr dX8_support_33 (⟨Or.inr ⟨i, j, hi, hj, hb, rfl, rfl, rfl, hcd⟩, ⟨⟨rfl, rfl, rfl⟩, (by repeat' (first | exact same_rf | refine same_ms ?_ (by decide)))⟩⟩)

theorem yok_X8_wouldFall : yOK yX8_wouldFall 2 := by unfold yOK; decide +kernel
theorem hi_X8_wouldFall_RX8 : ∀ w ∈ wsX80, w ∈ wsX8_wouldFall := by decide +kernel
theorem lk_X8_wouldFall_7 : Cond.fieldLink RX8 7 "ThornCoresModel" "s" "[I" ∈ wsX8_wouldFall := by decide +kernel
set_option maxRecDepth 20000 in
set_option maxHeartbeats 4000000 in
theorem c_X8_wouldFall {l : Launch} {D : va_G} {ad : Nat → Nat} {cI cL : ClassId} (hfl : l.flags = flags0) (hok : adOK ad) (μ : Mem) (p0 p1 : Int32) {n : Nat} {pr : Int32} {th : Nat → Int32} (hM : Mo μ n pr th) (hT : TV n pr th) : CtI l D ad cI cL yX8_wouldFall wsX8_wouldFall (RM 3 70) [.ref (ad 25), .int p0, .int p1] μ (fun (r : Int32) (μ' : Mem) => ((hasB (nI n) p0 = false ∧ μ' 25 7 = 1) ∨ (hasB (nI n) p0 = true ∧ inR p1 0 15 = false ∧ μ' 25 7 = 2) ∨ ∃ j k, j < n ∧ k ≤ 15 ∧ p0 = nI j ∧ p1 = nI k ∧ r = nI (ct (coreI th pr k (allI n) &&& (coreI th pr k (allI n &&& (bitI (nI j) ^^^ (-1))) ^^^ (-1)))) ∧ μ' 25 7 = 0) ∧ kp μ μ' [25]) := by
  refine ct_i (cc := cX8_wouldFall) (maxL := 4) (own := RX8) .int hfl hok (by decide) rfl rfl rfl (Nat.le_of_ble_eq_true rfl) (fun p e s m below meth c C hr => ?_)
  refine go_lv (lv' := [some (.ref (ad 25)), some (.int p0), some (.int p1), none]) rfl ?_
  obtain ⟨hs0, hs1, hth⟩ := id hM
  have hn := hT.1
  refine go_aload0 C (pc := 0) dX8_wouldFall_0 ?_
  refine go_iload1 C (pc := 1) dX8_wouldFall_1 ?_
  refine go_ciV1 C (pc := 2) obj_25 (c_X8_isThere C.fl C.ok _ _ hM hT) gX8_wouldFall_X8_isThere rfl rfl yok_X8_isThere ⟨rfl, rfl⟩ ⟨Nat.le_of_ble_eq_true rfl, Nat.le_of_ble_eq_true rfl⟩ (Nat.le_of_ble_eq_true rfl) ⟨Nat.zero_le _, Nat.zero_le _⟩ dX8_wouldFall_2 (fun r1 μ1 hc1 => ?_)
  obtain ⟨rfl, hm1⟩ := hc1
  replace hm1 := hm1.symm
  subst hm1
  refine go_if_ne C (pc := 5) (tgt := 10) dX8_wouldFall_5 (by decide) (fun h5 => ?_) (fun h5 => ?_)
  · have hcd := dz h5
    obtain ⟨j, hj, rfl⟩ := cd1_ex hn hcd
    have hh : hasB (nI n) (nI j) = true := by rw [hasB_nI rfl hn (by omega)]; exact decide_eq_true hj
    refine go_iload2 C (pc := 10) dX8_wouldFall_10 ?_
    refine go_iconst C (pc := 11) (v := 0) (by decide) dX8_wouldFall_11 ?_
    refine go_bipush C (pc := 12) (v := 15) (by decide) dX8_wouldFall_12 ?_
    refine go_ciS3 C (pc := 14) (c_X8_in C.fl C.ok _ _ _ _ ) gX8_wouldFall_X8_in rfl yok_X8_in ⟨rfl, rfl⟩ ⟨Nat.le_of_ble_eq_true rfl, Nat.le_of_ble_eq_true rfl⟩ (Nat.le_of_ble_eq_true rfl) ⟨Nat.zero_le _, Nat.zero_le _⟩ dX8_wouldFall_14 (fun r3 μ3 hc3 => ?_)
    obtain ⟨rfl, hm3⟩ := hc3
    replace hm3 := hm3.symm
    subst hm3
    refine go_if_ne C (pc := 17) (tgt := 26) dX8_wouldFall_17 (by decide) (fun h17 => ?_) (fun h17 => ?_)
    · obtain ⟨k, hk, rfl⟩ := inR_ex (bneg h17)
      refine go_aload0 C (pc := 26) dX8_wouldFall_26 ?_
      refine go_aload0 C (pc := 27) dX8_wouldFall_27 ?_
      refine go_ciV0 C (pc := 28) obj_25 (c_X8_all C.fl C.ok _ hM hT) gX8_wouldFall_X8_all rfl rfl yok_X8_all ⟨rfl, rfl⟩ ⟨Nat.le_of_ble_eq_true rfl, Nat.le_of_ble_eq_true rfl⟩ (Nat.le_of_ble_eq_true rfl) ⟨Nat.zero_le _, Nat.zero_le _⟩ dX8_wouldFall_28 (fun r5 μ5 hc5 => ?_)
      obtain ⟨rfl, hm5⟩ := hc5
      replace hm5 := hm5.symm
      subst hm5
      refine go_iconst C (pc := 31) (v := 1) (by decide) dX8_wouldFall_31 ?_
      refine go_iload1 C (pc := 32) dX8_wouldFall_32 ?_
      refine go_ishl C (pc := 33) dX8_wouldFall_33 ?_
      refine go_iconst C (pc := 34) (v := -1) (by decide) dX8_wouldFall_34 ?_
      refine go_ixor C (pc := 35) dX8_wouldFall_35 ?_
      refine go_iand C (pc := 36) dX8_wouldFall_36 ?_
      refine go_iload2 C (pc := 37) dX8_wouldFall_37 ?_
      refine go_aload0 C (pc := 38) dX8_wouldFall_38 ?_
      refine go_get C (pc := 39) 25 (by decide) rfl rfl 0 (by decide) rfl rfl hi_X8_wouldFall_RX8 lk_X8_wouldFall_7 dX8_wouldFall_39 ?_
      refine go_iconst C (pc := 42) (v := 1) (by decide) dX8_wouldFall_42 ?_
      refine go_top (y := nI 1) (by first | rfl | decide +kernel) ?_
      refine go_ialdN C (pc := 43) arr_26 (i := 1) (by omega) dX8_wouldFall_43 ?_
      refine go_top (y := pr) hs1 ?_
      refine go_ciV3 C (pc := 44) obj_25 (c_X8_left C.fl C.ok _ _ _ _ hM hT (sm_and _ (sm_all hn)) (fun i hi => by rw [b_and, Bool.and_eq_true] at hi; exact hi.1) (by omega)) gX8_wouldFall_X8_left rfl rfl yok_X8_left ⟨rfl, rfl⟩ ⟨Nat.le_of_ble_eq_true rfl, Nat.le_of_ble_eq_true rfl⟩ (Nat.le_of_ble_eq_true rfl) ⟨Nat.zero_le _, Nat.zero_le _⟩ dX8_wouldFall_44 (fun r6 μ6 hc6 => ?_)
      obtain ⟨rfl, hm6⟩ := hc6
      replace hm6 := hm6.symm
      subst hm6
      refine go_istore3 C (pc := 47) dX8_wouldFall_47 ?_
      refine go_aload0 C (pc := 48) dX8_wouldFall_48 ?_
      refine go_iload2 C (pc := 49) dX8_wouldFall_49 ?_
      refine go_ciV1 C (pc := 50) obj_25 (c_X8_cored C.fl C.ok _ _ hM hT (by omega)) gX8_wouldFall_X8_cored rfl rfl yok_X8_cored ⟨rfl, rfl⟩ ⟨Nat.le_of_ble_eq_true rfl, Nat.le_of_ble_eq_true rfl⟩ (Nat.le_of_ble_eq_true rfl) ⟨Nat.zero_le _, Nat.zero_le _⟩ dX8_wouldFall_50 (fun r7 μ7 hc7 => ?_)
      obtain ⟨rfl, hm7⟩ := hc7
      replace hm7 := hm7.symm
      subst hm7
      refine go_iload3 C (pc := 53) dX8_wouldFall_53 ?_
      refine go_iconst C (pc := 54) (v := -1) (by decide) dX8_wouldFall_54 ?_
      refine go_ixor C (pc := 55) dX8_wouldFall_55 ?_
      refine go_iand C (pc := 56) dX8_wouldFall_56 ?_
      refine go_ciS1 C (pc := 57) (c_X8_bits C.fl C.ok _ _ ) gX8_wouldFall_X8_bits rfl yok_X8_bits ⟨rfl, rfl⟩ ⟨Nat.le_of_ble_eq_true rfl, Nat.le_of_ble_eq_true rfl⟩ (Nat.le_of_ble_eq_true rfl) ⟨Nat.zero_le _, Nat.zero_le _⟩ dX8_wouldFall_57 (fun r8 μ8 hc8 => ?_)
      obtain ⟨rfl, hm8⟩ := hc8
      replace hm8 := hm8.symm
      subst hm8
      exact go_iret C hr dX8_wouldFall_60 (⟨Or.inr (Or.inr ⟨j, k, hj, hk, rfl, rfl, rfl, hcd⟩), ⟨⟨rfl, rfl, rfl⟩, (by repeat' (first | exact same_rf | refine same_ms ?_ (by decide)))⟩⟩)
    · refine go_aload0 C (pc := 20) dX8_wouldFall_20 ?_
      refine go_iconst C (pc := 21) (v := 2) (by decide) dX8_wouldFall_21 ?_
      refine go_ciV1 C (pc := 22) obj_25 (c_X8_throwing C.fl C.ok _ _ ) gX8_wouldFall_X8_throwing rfl rfl yok_X8_throwing ⟨rfl, rfl⟩ ⟨Nat.le_of_ble_eq_true rfl, Nat.le_of_ble_eq_true rfl⟩ (Nat.le_of_ble_eq_true rfl) ⟨Nat.zero_le _, Nat.zero_le _⟩ dX8_wouldFall_22 (fun r9 μ9 hc9 => ?_)
      obtain ⟨rfl, hm9⟩ := hc9
      replace hm9 := hm9.symm
      subst hm9
      exact go_iret C hr dX8_wouldFall_25 (⟨Or.inr (Or.inl ⟨hh, bpos h17, rfl⟩), ⟨⟨rfl, rfl, rfl⟩, (by repeat' (first | exact same_rf | refine same_ms ?_ (by decide)))⟩⟩)
  · refine go_iconst C (pc := 8) (v := 0) (by decide) dX8_wouldFall_8 ?_
    exact go_iret C hr dX8_wouldFall_9 (⟨Or.inl (cd1_no (dnz h5)), ⟨⟨rfl, rfl, rfl⟩, (by repeat' (first | exact same_rf | refine same_ms ?_ (by decide)))⟩⟩)

theorem yok_X8_greatestCore : yOK yX8_greatestCore 0 := by unfold yOK; decide +kernel
theorem hi_X8_greatestCore_RX8 : ∀ w ∈ wsX80, w ∈ wsX8_greatestCore := by decide +kernel
theorem lk_X8_greatestCore_7 : Cond.fieldLink RX8 7 "ThornCoresModel" "s" "[I" ∈ wsX8_greatestCore := by decide +kernel
theorem lk_X8_greatestCore_31 : Cond.fieldLink RX8 31 "ThornCoresModel" "thrown" "I" ∈ wsX8_greatestCore := by decide +kernel
set_option maxRecDepth 20000 in
set_option maxHeartbeats 4000000 in
theorem c_X8_greatestCore {l : Launch} {D : va_G} {ad : Nat → Nat} {cI cL : ClassId} (hfl : l.flags = flags0) (hok : adOK ad) (μ : Mem) {n : Nat} {pr : Int32} {th : Nat → Int32} (hM : Mo μ n pr th) (hT : TV n pr th) : CtI l D ad cI cL yX8_greatestCore wsX8_greatestCore (RM 4 92) [.ref (ad 25)] μ (fun (r : Int32) (μ' : Mem) => r = nI (freeN th pr n) ∧ μ' 25 7 = 0 ∧ kp μ μ' [25]) := by
  refine ct_i (cc := cX8_greatestCore) (maxL := 4) (own := RX8) .int hfl hok (by decide) rfl rfl rfl (Nat.le_of_ble_eq_true rfl) (fun p e s m below meth c C hr => ?_)
  refine go_lv (lv' := [some (.ref (ad 25)), none, none, none]) rfl ?_
  obtain ⟨hs0, hs1, hth⟩ := id hM
  have hn := hT.1
  have key : ∀ x, x ≤ n → Go p l e (headSpec wsX8_greatestCore (RM 4 92)).room s m ([.ref (ad 25)] : List Value).toArray below meth c 0 0 (MQ below (va_Qi (fun (r : Int32) (μ' : Mem) => r = nI (freeN th pr n) ∧ μ' 25 7 = 0 ∧ kp μ μ' [25]) (fun μ' t => PreW D ad cI cL μ' t) (AW ad)) ([.ref (ad 25)] : List Value).toArray s 0 0 (AW ad)) (AW ad) D ad cI cL 4 9 [some (.ref (ad 25)), some (.int (nI (mxN th pr n x))), some (.int (nI x)), none] [] (mset μ 25 (upd (μ 25) 7 0)) := by
    refine dn_ind ?_ ?_
    · refine go_iload2 C (pc := 9) dX8_greatestCore_9 ?_
      refine go_aload0 C (pc := 10) dX8_greatestCore_10 ?_
      refine go_get C (pc := 11) 25 (by decide) rfl rfl 0 (by decide) rfl rfl hi_X8_greatestCore_RX8 lk_X8_greatestCore_7 dX8_greatestCore_11 ?_
      refine go_iconst C (pc := 14) (v := 0) (by decide) dX8_greatestCore_14 ?_
      refine go_top (y := nI 0) (by first | rfl | decide +kernel) ?_
      refine go_ialdN C (pc := 15) arr_26 (i := 0) (by omega) dX8_greatestCore_15 ?_
      refine go_top (y := nI n) hs0 ?_
      refine go_icmp_ge C (pc := 16) (tgt := 59) dX8_greatestCore_16 (by decide) (fun h16 => ?_) (fun h16 => ?_)
      · refine go_iload1 C (pc := 59) dX8_greatestCore_59 ?_
        exact go_iret C hr dX8_greatestCore_60 (⟨by rw [mx_free hT], rfl, ⟨⟨rfl, rfl, rfl⟩, (by repeat' (first | exact same_rf | refine same_ms ?_ (by decide)))⟩⟩)
      · exact absurd (nI_le (Nat.le_refl _) (by omega)) h16
    · intro x hx ih
      refine go_iload2 C (pc := 9) dX8_greatestCore_9 ?_
      refine go_aload0 C (pc := 10) dX8_greatestCore_10 ?_
      refine go_get C (pc := 11) 25 (by decide) rfl rfl 0 (by decide) rfl rfl hi_X8_greatestCore_RX8 lk_X8_greatestCore_7 dX8_greatestCore_11 ?_
      refine go_iconst C (pc := 14) (v := 0) (by decide) dX8_greatestCore_14 ?_
      refine go_top (y := nI 0) (by first | rfl | decide +kernel) ?_
      refine go_ialdN C (pc := 15) arr_26 (i := 0) (by omega) dX8_greatestCore_15 ?_
      refine go_top (y := nI n) hs0 ?_
      refine go_icmp_ge C (pc := 16) (tgt := 59) dX8_greatestCore_16 (by decide) (fun h16 => ?_) (fun h16 => ?_)
      · exact absurd h16 (nI_ge hx (by omega))
      · refine go_aload0 C (pc := 19) dX8_greatestCore_19 ?_
        refine go_get C (pc := 20) 25 (by decide) rfl rfl 0 (by decide) rfl rfl hi_X8_greatestCore_RX8 lk_X8_greatestCore_7 dX8_greatestCore_20 ?_
        refine go_iconst C (pc := 23) (v := 1) (by decide) dX8_greatestCore_23 ?_
        refine go_top (y := nI 1) (by first | rfl | decide +kernel) ?_
        refine go_ialdN C (pc := 24) arr_26 (i := 1) (by omega) dX8_greatestCore_24 ?_
        refine go_top (y := pr) hs1 ?_
        refine go_iload2 C (pc := 25) dX8_greatestCore_25 ?_
        refine go_ciS2 C (pc := 26) (c_X8_has C.fl C.ok _ _ _ (by omega)) gX8_greatestCore_X8_has rfl yok_X8_has ⟨rfl, rfl⟩ ⟨Nat.le_of_ble_eq_true rfl, Nat.le_of_ble_eq_true rfl⟩ (Nat.le_of_ble_eq_true rfl) ⟨Nat.zero_le _, Nat.zero_le _⟩ dX8_greatestCore_26 (fun r3 μ3 hc3 => ?_)
        obtain ⟨rfl, hm3⟩ := hc3
        replace hm3 := hm3.symm
        subst hm3
        refine go_if_eq C (pc := 29) (tgt := 36) dX8_greatestCore_29 (by decide) (fun h29 => ?_) (fun h29 => ?_)
        · refine go_aload0 C (pc := 36) dX8_greatestCore_36 ?_
          refine go_iload2 C (pc := 37) dX8_greatestCore_37 ?_
          refine go_ciV1 C (pc := 38) obj_25 (c_X8_coreNumber C.fl C.ok _ _ hM hT hx) gX8_greatestCore_X8_coreNumber rfl rfl yok_X8_coreNumber ⟨rfl, rfl⟩ ⟨Nat.le_of_ble_eq_true rfl, Nat.le_of_ble_eq_true rfl⟩ (Nat.le_of_ble_eq_true rfl) ⟨Nat.zero_le _, Nat.zero_le _⟩ dX8_greatestCore_38 (fun r5 μ5 hc5 => ?_)
          obtain ⟨rfl, hm5⟩ := hc5
          replace hm5 := hm5.symm
          subst hm5
          refine go_istore3 C (pc := 41) dX8_greatestCore_41 ?_
          refine go_iload3 C (pc := 42) dX8_greatestCore_42 ?_
          refine go_iload1 C (pc := 43) dX8_greatestCore_43 ?_
          refine go_icmp_le C (pc := 44) (tgt := 51) dX8_greatestCore_44 (by decide) (fun h44 => ?_) (fun h44 => ?_)
          · refine go_iload1 C (pc := 51) dX8_greatestCore_51 ?_
            refine go_istore1 C (pc := 52) dX8_greatestCore_52 ?_
            refine go_iinc2 C (pc := 53) (v := 1) dX8_greatestCore_53 (by decide) ?_
            refine go_goto C (pc := 56) (tgt := 9) dX8_greatestCore_56 (by decide) ?_
            exact go_drop3 (go_lv (by rw [nI_1, mxN, if_neg (by rw [bpos h29]; decide), if_neg (fun q => nI_ge q (by have : coreN th pr n x ≤ 15 := topK_le _ _; omega) h44)]) ih)
          · refine go_iload3 C (pc := 47) dX8_greatestCore_47 ?_
            refine go_goto C (pc := 48) (tgt := 52) dX8_greatestCore_48 (by decide) ?_
            refine go_istore1 C (pc := 52) dX8_greatestCore_52 ?_
            refine go_iinc2 C (pc := 53) (v := 1) dX8_greatestCore_53 (by decide) ?_
            refine go_goto C (pc := 56) (tgt := 9) dX8_greatestCore_56 (by decide) ?_
            exact go_drop3 (go_lv (by rw [nI_1, mxN, if_neg (by rw [bpos h29]; decide), if_pos (Nat.lt_of_not_le (fun q => h44 (nI_le q (by have := mx_le th pr n x; omega))))]) ih)
        · refine go_iconst C (pc := 32) (v := 0) (by decide) dX8_greatestCore_32 ?_
          refine go_top (y := nI 0) rfl ?_
          refine go_goto C (pc := 33) (tgt := 41) dX8_greatestCore_33 (by decide) ?_
          refine go_istore3 C (pc := 41) dX8_greatestCore_41 ?_
          refine go_iload3 C (pc := 42) dX8_greatestCore_42 ?_
          refine go_iload1 C (pc := 43) dX8_greatestCore_43 ?_
          refine go_icmp_le C (pc := 44) (tgt := 51) dX8_greatestCore_44 (by decide) (fun h44 => ?_) (fun h44 => ?_)
          · refine go_iload1 C (pc := 51) dX8_greatestCore_51 ?_
            refine go_istore1 C (pc := 52) dX8_greatestCore_52 ?_
            refine go_iinc2 C (pc := 53) (v := 1) dX8_greatestCore_53 (by decide) ?_
            refine go_goto C (pc := 56) (tgt := 9) dX8_greatestCore_56 (by decide) ?_
            exact go_drop3 (go_lv (by rw [nI_1, mxN, if_pos (bneg h29)]) ih)
          · refine go_iload3 C (pc := 47) dX8_greatestCore_47 ?_
            refine go_goto C (pc := 48) (tgt := 52) dX8_greatestCore_48 (by decide) ?_
            refine go_istore1 C (pc := 52) dX8_greatestCore_52 ?_
            refine go_iinc2 C (pc := 53) (v := 1) dX8_greatestCore_53 (by decide) ?_
            refine go_goto C (pc := 56) (tgt := 9) dX8_greatestCore_56 (by decide) ?_
            exact absurd (nI_le (show 0 ≤ mxN th pr n x from Nat.zero_le _) (by have := mx_le th pr n x; omega)) h44
  refine go_aload0 C (pc := 0) dX8_greatestCore_0 ?_
  refine go_iconst C (pc := 1) (v := 0) (by decide) dX8_greatestCore_1 ?_
  refine go_put C (pc := 2) 25 (by decide) rfl rfl 7 (by decide) rfl hi_X8_greatestCore_RX8 lk_X8_greatestCore_31 tyX8_ok nmX8 rfl rfl rfl (Nat.le_of_ble_eq_true rfl) rfl dX8_greatestCore_2 ?_
  refine go_iconst C (pc := 5) (v := 0) (by decide) dX8_greatestCore_5 ?_
  refine go_istore1 C (pc := 6) dX8_greatestCore_6 ?_
  refine go_iconst C (pc := 7) (v := 0) (by decide) dX8_greatestCore_7 ?_
  refine go_istore2 C (pc := 8) dX8_greatestCore_8 ?_
  exact go_lv (by rw [nI_0]; rfl) (key 0 (Nat.zero_le _))

theorem all_one {n : Nat} {pr : Int32} {th : Nat → Int32} (hT : TV n pr th) {i : Nat} (hi : i < 16) : bcI (rowAt th 16 (nI i)) = nI (ct (th i)) := by rw [rowAt_nI (by decide) hi, bc_ct (sm_row hT hi)]
theorem yok_X8_allThorns : yOK yX8_allThorns 0 := by unfold yOK; decide +kernel
theorem hi_X8_allThorns_RX8 : ∀ w ∈ wsX80, w ∈ wsX8_allThorns := by decide +kernel
theorem lk_X8_allThorns_7 : Cond.fieldLink RX8 7 "ThornCoresModel" "s" "[I" ∈ wsX8_allThorns := by decide +kernel
set_option maxRecDepth 20000 in
set_option maxHeartbeats 4000000 in
theorem c_X8_allThorns {l : Launch} {D : va_G} {ad : Nat → Nat} {cI cL : ClassId} (hfl : l.flags = flags0) (hok : adOK ad) (μ : Mem) {n : Nat} {pr : Int32} {th : Nat → Int32} (hM : Mo μ n pr th) (hT : TV n pr th) : CtI l D ad cI cL yX8_allThorns wsX8_allThorns (RM 1 22) [.ref (ad 25)] μ (fun (r : Int32) (μ' : Mem) => r = sumI (fun k => bcI (rowAt th 16 (nI k))) n / 2 ∧ μ' = μ) := by
  refine ct_i (cc := cX8_allThorns) (maxL := 3) (own := RX8) .int hfl hok (by decide) rfl rfl rfl (Nat.le_of_ble_eq_true rfl) (fun p e s m below meth c C hr => ?_)
  refine go_lv (lv' := [some (.ref (ad 25)), none, none]) rfl ?_
  obtain ⟨hs0, hs1, hth⟩ := id hM
  have hn := hT.1
  have key : ∀ x, x ≤ n → Go p l e (headSpec wsX8_allThorns (RM 1 22)).room s m ([.ref (ad 25)] : List Value).toArray below meth c 0 0 (MQ below (va_Qi (fun (r : Int32) (μ' : Mem) => r = sumI (fun k => bcI (rowAt th 16 (nI k))) n / 2 ∧ μ' = μ) (fun μ' t => PreW D ad cI cL μ' t) (AW ad)) ([.ref (ad 25)] : List Value).toArray s 0 0 (AW ad)) (AW ad) D ad cI cL 3 4 [some (.ref (ad 25)), some (.int (sumI (fun k => bcI (rowAt th 16 (nI k))) x)), some (.int (nI x))] [] (μ) := by
    refine dn_ind ?_ ?_
    · refine go_iload2 C (pc := 4) dX8_allThorns_4 ?_
      refine go_aload0 C (pc := 5) dX8_allThorns_5 ?_
      refine go_get C (pc := 6) 25 (by decide) rfl rfl 0 (by decide) rfl rfl hi_X8_allThorns_RX8 lk_X8_allThorns_7 dX8_allThorns_6 ?_
      refine go_iconst C (pc := 9) (v := 0) (by decide) dX8_allThorns_9 ?_
      refine go_top (y := nI 0) (by first | rfl | decide +kernel) ?_
      refine go_ialdN C (pc := 10) arr_26 (i := 0) (by omega) dX8_allThorns_10 ?_
      refine go_top (y := nI n) hs0 ?_
      refine go_icmp_ge C (pc := 11) (tgt := 34) dX8_allThorns_11 (by decide) (fun h11 => ?_) (fun h11 => ?_)
      · refine go_iload1 C (pc := 34) dX8_allThorns_34 ?_
        refine go_iconst C (pc := 35) (v := 2) (by decide) dX8_allThorns_35 ?_
        refine go_idiv C (pc := 36) (by decide) dX8_allThorns_36 ?_
        exact go_iret C hr dX8_allThorns_37 (⟨rfl, rfl⟩)
      · exact absurd (nI_le (Nat.le_refl _) (by omega)) h11
    · intro x hx ih
      refine go_iload2 C (pc := 4) dX8_allThorns_4 ?_
      refine go_aload0 C (pc := 5) dX8_allThorns_5 ?_
      refine go_get C (pc := 6) 25 (by decide) rfl rfl 0 (by decide) rfl rfl hi_X8_allThorns_RX8 lk_X8_allThorns_7 dX8_allThorns_6 ?_
      refine go_iconst C (pc := 9) (v := 0) (by decide) dX8_allThorns_9 ?_
      refine go_top (y := nI 0) (by first | rfl | decide +kernel) ?_
      refine go_ialdN C (pc := 10) arr_26 (i := 0) (by omega) dX8_allThorns_10 ?_
      refine go_top (y := nI n) hs0 ?_
      refine go_icmp_ge C (pc := 11) (tgt := 34) dX8_allThorns_11 (by decide) (fun h11 => ?_) (fun h11 => ?_)
      · exact absurd h11 (nI_ge hx (by omega))
      · refine go_iload1 C (pc := 14) dX8_allThorns_14 ?_
        refine go_aload0 C (pc := 15) dX8_allThorns_15 ?_
        refine go_get C (pc := 16) 25 (by decide) rfl rfl 0 (by decide) rfl rfl hi_X8_allThorns_RX8 lk_X8_allThorns_7 dX8_allThorns_16 ?_
        refine go_iconst C (pc := 19) (v := 2) (by decide) dX8_allThorns_19 ?_
        refine go_iload2 C (pc := 20) dX8_allThorns_20 ?_
        refine go_iadd C (pc := 21) dX8_allThorns_21 ?_
        refine go_top (y := nI (2 + x)) (by rw [show (2 : Int32) = nI 2 from by decide +kernel, nI_add]) ?_
        refine go_ialdN C (pc := 22) arr_26 (i := (2 + x)) (by omega) dX8_allThorns_22 ?_
        refine go_top (y := th x) (hth _ (by omega)) ?_
        refine go_ciS1 C (pc := 23) (c_X8_bits C.fl C.ok _ _ ) gX8_allThorns_X8_bits rfl yok_X8_bits ⟨rfl, rfl⟩ ⟨Nat.le_of_ble_eq_true rfl, Nat.le_of_ble_eq_true rfl⟩ (Nat.le_of_ble_eq_true rfl) ⟨Nat.zero_le _, Nat.zero_le _⟩ dX8_allThorns_23 (fun r3 μ3 hc3 => ?_)
        obtain ⟨rfl, hm3⟩ := hc3
        replace hm3 := hm3.symm
        subst hm3
        refine go_iadd C (pc := 26) dX8_allThorns_26 ?_
        refine go_istore1 C (pc := 27) dX8_allThorns_27 ?_
        refine go_iinc2 C (pc := 28) (v := 1) dX8_allThorns_28 (by decide) ?_
        refine go_goto C (pc := 31) (tgt := 4) dX8_allThorns_31 (by decide) ?_
        exact go_lv (by simp only [sumI]; rw [nI_1, all_one hT (show x < 16 by omega)]) ih
  refine go_iconst C (pc := 0) (v := 0) (by decide) dX8_allThorns_0 ?_
  refine go_istore1 C (pc := 1) dX8_allThorns_1 ?_
  refine go_iconst C (pc := 2) (v := 0) (by decide) dX8_allThorns_2 ?_
  refine go_istore2 C (pc := 3) dX8_allThorns_3 ?_
  exact go_lv (by rw [nI_0]; rfl) (key 0 (Nat.zero_le _))

theorem yok_X8_plantCount : yOK yX8_plantCount 0 := by unfold yOK; decide +kernel
theorem hi_X8_plantCount_RX8 : ∀ w ∈ wsX80, w ∈ wsX8_plantCount := by decide +kernel
theorem lk_X8_plantCount_31 : Cond.fieldLink RX8 31 "ThornCoresModel" "thrown" "I" ∈ wsX8_plantCount := by decide +kernel
theorem lk_X8_plantCount_7 : Cond.fieldLink RX8 7 "ThornCoresModel" "s" "[I" ∈ wsX8_plantCount := by decide +kernel
set_option maxRecDepth 20000 in
set_option maxHeartbeats 4000000 in
theorem c_X8_plantCount {l : Launch} {D : va_G} {ad : Nat → Nat} {cI cL : ClassId} (hfl : l.flags = flags0) (hok : adOK ad) (μ : Mem) {n : Nat} {pr : Int32} {th : Nat → Int32} (hM : Mo μ n pr th) (hT : TV n pr th) : CtI l D ad cI cL yX8_plantCount wsX8_plantCount (RM 0 0) [.ref (ad 25)] μ (fun (r : Int32) (μ' : Mem) => (r = nI n) ∧ μ' 25 7 = 0 ∧ kp μ μ' [25]) := by
  refine ct_i (cc := cX8_plantCount) (maxL := 1) (own := RX8) .int hfl hok (by decide) rfl rfl rfl (Nat.le_of_ble_eq_true rfl) (fun p e s m below meth c C hr => ?_)
  refine go_lv (lv' := [some (.ref (ad 25))]) rfl ?_
  obtain ⟨hs0, hs1, hth⟩ := id hM
  have hn := hT.1
  refine go_aload0 C (pc := 0) dX8_plantCount_0 ?_
  refine go_iconst C (pc := 1) (v := 0) (by decide) dX8_plantCount_1 ?_
  refine go_put C (pc := 2) 25 (by decide) rfl rfl 7 (by decide) rfl hi_X8_plantCount_RX8 lk_X8_plantCount_31 tyX8_ok nmX8 rfl rfl rfl (Nat.le_of_ble_eq_true rfl) rfl dX8_plantCount_2 ?_
  refine go_aload0 C (pc := 5) dX8_plantCount_5 ?_
  refine go_get C (pc := 6) 25 (by decide) rfl rfl 0 (by decide) rfl rfl hi_X8_plantCount_RX8 lk_X8_plantCount_7 dX8_plantCount_6 ?_
  refine go_iconst C (pc := 9) (v := 0) (by decide) dX8_plantCount_9 ?_
  refine go_top (y := nI 0) (by first | rfl | decide +kernel) ?_
  refine go_ialdN C (pc := 10) arr_26 (i := 0) (by omega) dX8_plantCount_10 ?_
  refine go_top (y := nI n) hs0 ?_
  exact go_iret C hr dX8_plantCount_11 (⟨rfl, rfl, ⟨⟨rfl, rfl, rfl⟩, (by repeat' (first | exact same_rf | refine same_ms ?_ (by decide)))⟩⟩)

theorem yok_X8_historySize : yOK yX8_historySize 0 := by unfold yOK; decide +kernel
theorem hi_X8_historySize_RX8 : ∀ w ∈ wsX80, w ∈ wsX8_historySize := by decide +kernel
theorem lk_X8_historySize_31 : Cond.fieldLink RX8 31 "ThornCoresModel" "thrown" "I" ∈ wsX8_historySize := by decide +kernel
theorem lk_X8_historySize_43 : Cond.fieldLink RX8 43 "ThornCoresModel" "known" "I" ∈ wsX8_historySize := by decide +kernel
set_option maxRecDepth 20000 in
set_option maxHeartbeats 4000000 in
theorem c_X8_historySize {l : Launch} {D : va_G} {ad : Nat → Nat} {cI cL : ClassId} (hfl : l.flags = flags0) (hok : adOK ad) (μ : Mem) {n : Nat} {pr : Int32} {th : Nat → Int32} (hM : Mo μ n pr th) (hT : TV n pr th) : CtI l D ad cI cL yX8_historySize wsX8_historySize (RM 0 0) [.ref (ad 25)] μ (fun (r : Int32) (μ' : Mem) => (r = μ 25 2) ∧ μ' 25 7 = 0 ∧ kp μ μ' [25]) := by
  refine ct_i (cc := cX8_historySize) (maxL := 1) (own := RX8) .int hfl hok (by decide) rfl rfl rfl (Nat.le_of_ble_eq_true rfl) (fun p e s m below meth c C hr => ?_)
  refine go_lv (lv' := [some (.ref (ad 25))]) rfl ?_
  obtain ⟨hs0, hs1, hth⟩ := id hM
  have hn := hT.1
  refine go_aload0 C (pc := 0) dX8_historySize_0 ?_
  refine go_iconst C (pc := 1) (v := 0) (by decide) dX8_historySize_1 ?_
  refine go_put C (pc := 2) 25 (by decide) rfl rfl 7 (by decide) rfl hi_X8_historySize_RX8 lk_X8_historySize_31 tyX8_ok nmX8 rfl rfl rfl (Nat.le_of_ble_eq_true rfl) rfl dX8_historySize_2 ?_
  refine go_aload0 C (pc := 5) dX8_historySize_5 ?_
  refine go_get C (pc := 6) 25 (by decide) rfl rfl 2 (by decide) rfl rfl hi_X8_historySize_RX8 lk_X8_historySize_43 dX8_historySize_6 ?_
  exact go_iret C hr dX8_historySize_9 (⟨rfl, rfl, ⟨⟨rfl, rfl, rfl⟩, (by repeat' (first | exact same_rf | refine same_ms ?_ (by decide)))⟩⟩)

theorem yok_X8_thornCount : yOK yX8_thornCount 0 := by unfold yOK; decide +kernel
theorem hi_X8_thornCount_RX8 : ∀ w ∈ wsX80, w ∈ wsX8_thornCount := by decide +kernel
theorem lk_X8_thornCount_31 : Cond.fieldLink RX8 31 "ThornCoresModel" "thrown" "I" ∈ wsX8_thornCount := by decide +kernel
set_option maxRecDepth 20000 in
set_option maxHeartbeats 4000000 in
theorem c_X8_thornCount {l : Launch} {D : va_G} {ad : Nat → Nat} {cI cL : ClassId} (hfl : l.flags = flags0) (hok : adOK ad) (μ : Mem) {n : Nat} {pr : Int32} {th : Nat → Int32} (hM : Mo μ n pr th) (hT : TV n pr th) : CtI l D ad cI cL yX8_thornCount wsX8_thornCount (RM 2 44) [.ref (ad 25)] μ (fun (r : Int32) (μ' : Mem) => (r = sumI (fun k => bcI (rowAt th 16 (nI k))) n / 2) ∧ μ' 25 7 = 0 ∧ kp μ μ' [25]) := by
  refine ct_i (cc := cX8_thornCount) (maxL := 1) (own := RX8) .int hfl hok (by decide) rfl rfl rfl (Nat.le_of_ble_eq_true rfl) (fun p e s m below meth c C hr => ?_)
  refine go_lv (lv' := [some (.ref (ad 25))]) rfl ?_
  obtain ⟨hs0, hs1, hth⟩ := id hM
  have hn := hT.1
  refine go_aload0 C (pc := 0) dX8_thornCount_0 ?_
  refine go_iconst C (pc := 1) (v := 0) (by decide) dX8_thornCount_1 ?_
  refine go_put C (pc := 2) 25 (by decide) rfl rfl 7 (by decide) rfl hi_X8_thornCount_RX8 lk_X8_thornCount_31 tyX8_ok nmX8 rfl rfl rfl (Nat.le_of_ble_eq_true rfl) rfl dX8_thornCount_2 ?_
  refine go_aload0 C (pc := 5) dX8_thornCount_5 ?_
  refine go_ciV0 C (pc := 6) obj_25 (c_X8_allThorns C.fl C.ok _ hM hT) gX8_thornCount_X8_allThorns rfl rfl yok_X8_allThorns ⟨rfl, rfl⟩ ⟨Nat.le_of_ble_eq_true rfl, Nat.le_of_ble_eq_true rfl⟩ (Nat.le_of_ble_eq_true rfl) ⟨Nat.zero_le _, Nat.zero_le _⟩ dX8_thornCount_6 (fun r1 μ1 hc1 => ?_)
  obtain ⟨rfl, hm1⟩ := hc1
  replace hm1 := hm1.symm
  subst hm1
  exact go_iret C hr dX8_thornCount_9 (⟨rfl, rfl, ⟨⟨rfl, rfl, rfl⟩, (by repeat' (first | exact same_rf | refine same_ms ?_ (by decide)))⟩⟩)

theorem yok_X8_threes : yOK yX8_threes 0 := by unfold yOK; decide +kernel
theorem hi_X8_threes_RX8 : ∀ w ∈ wsX80, w ∈ wsX8_threes := by decide +kernel
theorem lk_X8_threes_7 : Cond.fieldLink RX8 7 "ThornCoresModel" "s" "[I" ∈ wsX8_threes := by decide +kernel
set_option maxRecDepth 20000 in
set_option maxHeartbeats 4000000 in
theorem c_X8_threes {l : Launch} {D : va_G} {ad : Nat → Nat} {cI cL : ClassId} (hfl : l.flags = flags0) (hok : adOK ad) (μ : Mem) {n : Nat} {pr : Int32} {th : Nat → Int32} (hM : Mo μ n pr th) (hT : TV n pr th) : CtI l D ad cI cL yX8_threes wsX8_threes (RM 2 43) [.ref (ad 25)] μ (fun (r : Int32) (μ' : Mem) => r = nI (triN th n) ∧ μ' = μ) := by
  refine ct_i (cc := cX8_threes) (maxL := 4) (own := RX8) .int hfl hok (by decide) rfl rfl rfl (Nat.le_of_ble_eq_true rfl) (fun p e s m below meth c C hr => ?_)
  refine go_lv (lv' := [some (.ref (ad 25)), none, none, none]) rfl ?_
  obtain ⟨hs0, hs1, hth⟩ := id hM
  have hn := hT.1
  have key : ∀ x, x ≤ n → Go p l e (headSpec wsX8_threes (RM 2 43)).room s m ([.ref (ad 25)] : List Value).toArray below meth c 0 0 (MQ below (va_Qi (fun (r : Int32) (μ' : Mem) => r = nI (triN th n) ∧ μ' = μ) (fun μ' t => PreW D ad cI cL μ' t) (AW ad)) ([.ref (ad 25)] : List Value).toArray s 0 0 (AW ad)) (AW ad) D ad cI cL 4 4 [some (.ref (ad 25)), some (.int (nI (sN (fun y => sN (thF2 th y) y) x))), some (.int (nI x)), none] [] (μ) := by
    refine dn_ind ?_ ?_
    · refine go_iload2 C (pc := 4) dX8_threes_4 ?_
      refine go_aload0 C (pc := 5) dX8_threes_5 ?_
      refine go_get C (pc := 6) 25 (by decide) rfl rfl 0 (by decide) rfl rfl hi_X8_threes_RX8 lk_X8_threes_7 dX8_threes_6 ?_
      refine go_iconst C (pc := 9) (v := 0) (by decide) dX8_threes_9 ?_
      refine go_top (y := nI 0) (by first | rfl | decide +kernel) ?_
      refine go_ialdN C (pc := 10) arr_26 (i := 0) (by omega) dX8_threes_10 ?_
      refine go_top (y := nI n) hs0 ?_
      refine go_icmp_ge C (pc := 11) (tgt := 75) dX8_threes_11 (by decide) (fun h11 => ?_) (fun h11 => ?_)
      · refine go_iload1 C (pc := 75) dX8_threes_75 ?_
        exact go_iret C hr dX8_threes_76 (⟨by rw [← thr_tri hT]; rfl, rfl⟩)
      · exact absurd (nI_le (Nat.le_refl _) (by omega)) h11
    · intro x hx ih
      have key2 : ∀ y, y ≤ x → Go p l e (headSpec wsX8_threes (RM 2 43)).room s m ([.ref (ad 25)] : List Value).toArray below meth c 0 0 (MQ below (va_Qi (fun (r : Int32) (μ' : Mem) => r = nI (triN th n) ∧ μ' = μ) (fun μ' t => PreW D ad cI cL μ' t) (AW ad)) ([.ref (ad 25)] : List Value).toArray s 0 0 (AW ad)) (AW ad) D ad cI cL 4 16 [some (.ref (ad 25)), some (.int (nI (sN (fun y => sN (thF2 th y) y) x + sN (thF2 th x) y))), some (.int (nI x)), some (.int (nI y))] [] (μ) := by
        refine dn_ind ?_ ?_
        · refine go_iload3 C (pc := 16) dX8_threes_16 ?_
          refine go_iload2 C (pc := 17) dX8_threes_17 ?_
          refine go_icmp_ge C (pc := 18) (tgt := 69) dX8_threes_18 (by decide) (fun h18 => ?_) (fun h18 => ?_)
          · refine go_iinc2 C (pc := 69) (v := 1) dX8_threes_69 (by decide) ?_
            refine go_goto C (pc := 72) (tgt := 4) dX8_threes_72 (by decide) ?_
            exact go_drop3 (go_lv (by rw [nI_1]; rfl) ih)
          · exact absurd (nI_le (Nat.le_refl _) (by omega)) h18
        · intro y hy ih2
          refine go_iload3 C (pc := 16) dX8_threes_16 ?_
          refine go_iload2 C (pc := 17) dX8_threes_17 ?_
          refine go_icmp_ge C (pc := 18) (tgt := 69) dX8_threes_18 (by decide) (fun h18 => ?_) (fun h18 => ?_)
          · exact absurd h18 (nI_ge hy (by omega))
          · refine go_iload1 C (pc := 21) dX8_threes_21 ?_
            refine go_aload0 C (pc := 22) dX8_threes_22 ?_
            refine go_iload2 C (pc := 23) dX8_threes_23 ?_
            refine go_iload3 C (pc := 24) dX8_threes_24 ?_
            refine go_ciV2 C (pc := 25) obj_25 (c_X8_areBound C.fl C.ok _ _ _ hM hT (by omega) (by omega)) gX8_threes_X8_areBound rfl rfl yok_X8_areBound ⟨rfl, rfl⟩ ⟨Nat.le_of_ble_eq_true rfl, Nat.le_of_ble_eq_true rfl⟩ (Nat.le_of_ble_eq_true rfl) ⟨Nat.zero_le _, Nat.zero_le _⟩ dX8_threes_25 (fun r4 μ4 hc4 => ?_)
            obtain ⟨rfl, hm4⟩ := hc4
            replace hm4 := hm4.symm
            subst hm4
            refine go_if_eq C (pc := 28) (tgt := 60) dX8_threes_28 (by decide) (fun h28 => ?_) (fun h28 => ?_)
            · refine go_iconst C (pc := 60) (v := 0) (by decide) dX8_threes_60 ?_
              refine go_iadd C (pc := 61) dX8_threes_61 ?_
              refine go_istore1 C (pc := 62) dX8_threes_62 ?_
              refine go_iinc3 C (pc := 63) (v := 1) dX8_threes_63 (by decide) ?_
              refine go_goto C (pc := 66) (tgt := 16) dX8_threes_66 (by decide) ?_
              exact go_lv (by rw [nI_1, Int32.add_zero, show sN (thF2 th x) (y + 1) = sN (thF2 th x) y by rw [sN]; exact congrArg (_ + ·) (if_neg (by rw [bpos h28]; decide))]) ih2
            · refine go_aload0 C (pc := 31) dX8_threes_31 ?_
              refine go_get C (pc := 32) 25 (by decide) rfl rfl 0 (by decide) rfl rfl hi_X8_threes_RX8 lk_X8_threes_7 dX8_threes_32 ?_
              refine go_iconst C (pc := 35) (v := 2) (by decide) dX8_threes_35 ?_
              refine go_iload2 C (pc := 36) dX8_threes_36 ?_
              refine go_iadd C (pc := 37) dX8_threes_37 ?_
              refine go_top (y := nI (2 + x)) (by rw [show (2 : Int32) = nI 2 from by decide +kernel, nI_add]) ?_
              refine go_ialdN C (pc := 38) arr_26 (i := (2 + x)) (by omega) dX8_threes_38 ?_
              refine go_top (y := th x) (hth _ (by omega)) ?_
              refine go_aload0 C (pc := 39) dX8_threes_39 ?_
              refine go_get C (pc := 40) 25 (by decide) rfl rfl 0 (by decide) rfl rfl hi_X8_threes_RX8 lk_X8_threes_7 dX8_threes_40 ?_
              refine go_iconst C (pc := 43) (v := 2) (by decide) dX8_threes_43 ?_
              refine go_iload3 C (pc := 44) dX8_threes_44 ?_
              refine go_iadd C (pc := 45) dX8_threes_45 ?_
              refine go_top (y := nI (2 + y)) (by rw [show (2 : Int32) = nI 2 from by decide +kernel, nI_add]) ?_
              refine go_ialdN C (pc := 46) arr_26 (i := (2 + y)) (by omega) dX8_threes_46 ?_
              refine go_top (y := th y) (hth _ (by omega)) ?_
              refine go_iand C (pc := 47) dX8_threes_47 ?_
              refine go_iconst C (pc := 48) (v := 1) (by decide) dX8_threes_48 ?_
              refine go_iload3 C (pc := 49) dX8_threes_49 ?_
              refine go_ishl C (pc := 50) dX8_threes_50 ?_
              refine go_iconst C (pc := 51) (v := 1) (by decide) dX8_threes_51 ?_
              refine go_isub C (pc := 52) dX8_threes_52 ?_
              refine go_iand C (pc := 53) dX8_threes_53 ?_
              refine go_ciS1 C (pc := 54) (c_X8_bits C.fl C.ok _ _ ) gX8_threes_X8_bits rfl yok_X8_bits ⟨rfl, rfl⟩ ⟨Nat.le_of_ble_eq_true rfl, Nat.le_of_ble_eq_true rfl⟩ (Nat.le_of_ble_eq_true rfl) ⟨Nat.zero_le _, Nat.zero_le _⟩ dX8_threes_54 (fun r6 μ6 hc6 => ?_)
              obtain ⟨rfl, hm6⟩ := hc6
              replace hm6 := hm6.symm
              subst hm6
              refine go_goto C (pc := 57) (tgt := 61) dX8_threes_57 (by decide) ?_
              refine go_iadd C (pc := 61) dX8_threes_61 ?_
              refine go_istore1 C (pc := 62) dX8_threes_62 ?_
              refine go_iinc3 C (pc := 63) (v := 1) dX8_threes_63 (by decide) ?_
              refine go_goto C (pc := 66) (tgt := 16) dX8_threes_66 (by decide) ?_
              exact go_lv (by rw [nI_1, nI_add, show sN (thF2 th x) (y + 1) = sN (thF2 th x) y + ct (th x &&& th y &&& allI y) by rw [sN]; exact congrArg (_ + ·) (if_pos (bneg h28)), Nat.add_assoc]; rfl) ih2
      refine go_iload2 C (pc := 4) dX8_threes_4 ?_
      refine go_aload0 C (pc := 5) dX8_threes_5 ?_
      refine go_get C (pc := 6) 25 (by decide) rfl rfl 0 (by decide) rfl rfl hi_X8_threes_RX8 lk_X8_threes_7 dX8_threes_6 ?_
      refine go_iconst C (pc := 9) (v := 0) (by decide) dX8_threes_9 ?_
      refine go_top (y := nI 0) (by first | rfl | decide +kernel) ?_
      refine go_ialdN C (pc := 10) arr_26 (i := 0) (by omega) dX8_threes_10 ?_
      refine go_top (y := nI n) hs0 ?_
      refine go_icmp_ge C (pc := 11) (tgt := 75) dX8_threes_11 (by decide) (fun h11 => ?_) (fun h11 => ?_)
      · exact absurd h11 (nI_ge hx (by omega))
      · refine go_iconst C (pc := 14) (v := 0) (by decide) dX8_threes_14 ?_
        refine go_istore3 C (pc := 15) dX8_threes_15 ?_
        exact go_lv (by rw [nI_0]; rfl) (key2 0 (Nat.zero_le _))
  refine go_iconst C (pc := 0) (v := 0) (by decide) dX8_threes_0 ?_
  refine go_istore1 C (pc := 1) dX8_threes_1 ?_
  refine go_iconst C (pc := 2) (v := 0) (by decide) dX8_threes_2 ?_
  refine go_istore2 C (pc := 3) dX8_threes_3 ?_
  exact go_lv (by rw [nI_0]; rfl) (key 0 (Nat.zero_le _))

theorem yok_X8_triangles : yOK yX8_triangles 0 := by unfold yOK; decide +kernel
theorem hi_X8_triangles_RX8 : ∀ w ∈ wsX80, w ∈ wsX8_triangles := by decide +kernel
theorem lk_X8_triangles_31 : Cond.fieldLink RX8 31 "ThornCoresModel" "thrown" "I" ∈ wsX8_triangles := by decide +kernel
set_option maxRecDepth 20000 in
set_option maxHeartbeats 4000000 in
theorem c_X8_triangles {l : Launch} {D : va_G} {ad : Nat → Nat} {cI cL : ClassId} (hfl : l.flags = flags0) (hok : adOK ad) (μ : Mem) {n : Nat} {pr : Int32} {th : Nat → Int32} (hM : Mo μ n pr th) (hT : TV n pr th) : CtI l D ad cI cL yX8_triangles wsX8_triangles (RM 3 66) [.ref (ad 25)] μ (fun (r : Int32) (μ' : Mem) => (r = nI (triN th n)) ∧ μ' 25 7 = 0 ∧ kp μ μ' [25]) := by
  refine ct_i (cc := cX8_triangles) (maxL := 1) (own := RX8) .int hfl hok (by decide) rfl rfl rfl (Nat.le_of_ble_eq_true rfl) (fun p e s m below meth c C hr => ?_)
  refine go_lv (lv' := [some (.ref (ad 25))]) rfl ?_
  obtain ⟨hs0, hs1, hth⟩ := id hM
  have hn := hT.1
  refine go_aload0 C (pc := 0) dX8_triangles_0 ?_
  refine go_iconst C (pc := 1) (v := 0) (by decide) dX8_triangles_1 ?_
  refine go_put C (pc := 2) 25 (by decide) rfl rfl 7 (by decide) rfl hi_X8_triangles_RX8 lk_X8_triangles_31 tyX8_ok nmX8 rfl rfl rfl (Nat.le_of_ble_eq_true rfl) rfl dX8_triangles_2 ?_
  refine go_aload0 C (pc := 5) dX8_triangles_5 ?_
  refine go_ciV0 C (pc := 6) obj_25 (c_X8_threes C.fl C.ok _ hM hT) gX8_triangles_X8_threes rfl rfl yok_X8_threes ⟨rfl, rfl⟩ ⟨Nat.le_of_ble_eq_true rfl, Nat.le_of_ble_eq_true rfl⟩ (Nat.le_of_ble_eq_true rfl) ⟨Nat.zero_le _, Nat.zero_le _⟩ dX8_triangles_6 (fun r1 μ1 hc1 => ?_)
  obtain ⟨rfl, hm1⟩ := hc1
  replace hm1 := hm1.symm
  subst hm1
  exact go_iret C hr dX8_triangles_9 (⟨rfl, rfl, ⟨⟨rfl, rfl, rfl⟩, (by repeat' (first | exact same_rf | refine same_ms ?_ (by decide)))⟩⟩)

theorem yok_X8_trianglesBySupport : yOK yX8_trianglesBySupport 0 := by unfold yOK; decide +kernel
theorem hi_X8_trianglesBySupport_RX8 : ∀ w ∈ wsX80, w ∈ wsX8_trianglesBySupport := by decide +kernel
theorem lk_X8_trianglesBySupport_31 : Cond.fieldLink RX8 31 "ThornCoresModel" "thrown" "I" ∈ wsX8_trianglesBySupport := by decide +kernel
set_option maxRecDepth 20000 in
set_option maxHeartbeats 4000000 in
theorem c_X8_trianglesBySupport {l : Launch} {D : va_G} {ad : Nat → Nat} {cI cL : ClassId} (hfl : l.flags = flags0) (hok : adOK ad) (μ : Mem) {n : Nat} {pr : Int32} {th : Nat → Int32} (hM : Mo μ n pr th) (hT : TV n pr th) : CtI l D ad cI cL yX8_trianglesBySupport wsX8_trianglesBySupport (RM 3 66) [.ref (ad 25)] μ (fun (r : Int32) (μ' : Mem) => (r = nI (triN th n)) ∧ μ' 25 7 = 0 ∧ kp μ μ' [25]) := by
  refine ct_i (cc := cX8_trianglesBySupport) (maxL := 1) (own := RX8) .int hfl hok (by decide) rfl rfl rfl (Nat.le_of_ble_eq_true rfl) (fun p e s m below meth c C hr => ?_)
  refine go_lv (lv' := [some (.ref (ad 25))]) rfl ?_
  obtain ⟨hs0, hs1, hth⟩ := id hM
  have hn := hT.1
  refine go_aload0 C (pc := 0) dX8_trianglesBySupport_0 ?_
  refine go_iconst C (pc := 1) (v := 0) (by decide) dX8_trianglesBySupport_1 ?_
  refine go_put C (pc := 2) 25 (by decide) rfl rfl 7 (by decide) rfl hi_X8_trianglesBySupport_RX8 lk_X8_trianglesBySupport_31 tyX8_ok nmX8 rfl rfl rfl (Nat.le_of_ble_eq_true rfl) rfl dX8_trianglesBySupport_2 ?_
  refine go_aload0 C (pc := 5) dX8_trianglesBySupport_5 ?_
  refine go_ciV0 C (pc := 6) obj_25 (c_X8_threes C.fl C.ok _ hM hT) gX8_trianglesBySupport_X8_threes rfl rfl yok_X8_threes ⟨rfl, rfl⟩ ⟨Nat.le_of_ble_eq_true rfl, Nat.le_of_ble_eq_true rfl⟩ (Nat.le_of_ble_eq_true rfl) ⟨Nat.zero_le _, Nat.zero_le _⟩ dX8_trianglesBySupport_6 (fun r1 μ1 hc1 => ?_)
  obtain ⟨rfl, hm1⟩ := hc1
  replace hm1 := hm1.symm
  subst hm1
  exact go_iret C hr dX8_trianglesBySupport_9 (⟨rfl, rfl, ⟨⟨rfl, rfl, rfl⟩, (by repeat' (first | exact same_rf | refine same_ms ?_ (by decide)))⟩⟩)

