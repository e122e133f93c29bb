/-! ===== p38: cores, pieces, the best prop, trusses, places ===== -/
theorem core_00 {n : Nat} {pr : Int32} {th : Nat → Int32} (hn : n ≤ 16) : coreI th pr 0 (allI n) = allI n :=
  sub_anti core_sub (core_max (sm_all hn) (fun _ h => h) (fun _ _ _ => Or.inr (Nat.zero_le _)))
theorem core_down {n k : Nat} {pr : Int32} {th : Nat → Int32} (hn : n ≤ 16) (hk : 0 < k) : coreI th pr k (allI n) &&& (coreI th pr (k - 1) (allI n) ^^^ (-1)) = 0 := b_ext (fun i hi => by
  rw [b_and, bt_m1 hi, b_0]
  cases h : bt (coreI th pr k (allI n)) i
  · rfl
  · rw [core_mono (sm_all hn) (show k - 1 ≤ k by omega) i h]; rfl)
theorem core_pr {n j k : Nat} {pr : Int32} {th : Nat → Int32} (hT : TV n pr th) (hk : k ≤ 15) (hj : j < n) (hp : bt pr j = true) : bt (coreI th pr k (allI n)) j = true :=
  (core_iff hT.1 hj hk).mpr (by rw [core_prop hT hp]; exact hk)
theorem core_deg {n j k : Nat} {pr : Int32} {th : Nat → Int32} (hT : TV n pr th) (hj : j < n) (h : bt (coreI th pr k (allI n)) j = true) (hp : bt pr j = false) : k ≤ ct (th j &&& coreI th pr k (allI n)) := by
  have hn := hT.1
  rcases core_cl (sm_all hn) j (by omega) h with w | w
  · rw [hp] at w; cases w
  · exact w
/-- what would fall with j -/
def fallN (th : Nat → Int32) (pr : Int32) (n j k : Nat) : Nat := ct (coreI th pr k (allI n) &&& (coreI th pr k (allI n &&& (bitI (nI j) ^^^ (-1))) ^^^ (-1)))
theorem fall_le {n j k : Nat} {pr : Int32} {th : Nat → Int32} : fallN th pr n j k ≤ ct (coreI th pr k (allI n)) := ct_sub (fun i _ h => by
  rw [b_and, Bool.and_eq_true] at h; exact h.1)
theorem bt_allno {n j i : Nat} (hn : n ≤ 16) (hj : j < n) : bt (allI n &&& (bitI (nI j) ^^^ (-1))) i = (decide (i < n) && !decide (i = j)) := by
  rw [bt_clear (sm_all hn) (by omega), bt_all hn]
theorem fall_pos {n j k : Nat} {pr : Int32} {th : Nat → Int32} (hT : TV n pr th) (hj : j < n) : 0 < fallN th pr n j k ↔ bt (coreI th pr k (allI n)) j = true := by
  have hn := hT.1
  constructor
  · intro h
    obtain ⟨i, hi, hb⟩ := fb_ct_pos.mp h
    rw [b_and, Bool.and_eq_true, bt_m1 (by omega)] at hb
    cases q : bt (coreI th pr k (allI n)) j with
    | true => rfl
    | false =>
      have hsub : sub (coreI th pr k (allI n)) (coreI th pr k (allI n &&& (bitI (nI j) ^^^ (-1)))) := core_max (sm_core (sm_all hn)) (fun x hx => by
        rw [bt_allno hn hj]
        have h1 := core_sub x hx
        rw [bt_all hn] at h1
        rw [h1]
        by_cases e : x = j
        · rw [e, q] at hx; cases hx
        · simp [e]) (core_cl (sm_all hn))
      rw [hsub i hb.1] at hb
      exact absurd hb.2 (by decide)
  · intro h
    refine fb_ct_pos.mpr ⟨j, by omega, ?_⟩
    rw [b_and, h, bt_m1 (by omega)]
    cases q : bt (coreI th pr k (allI n &&& (bitI (nI j) ^^^ (-1)))) j with
    | false => rfl
    | true =>
      have h1 := core_sub j q
      rw [bt_allno hn hj] at h1
      simp at h1
theorem ct_0 {x : Int32} (hx : sm x) : ct x = 0 ↔ x = 0 := by
  constructor
  · intro h
    refine b_ext (fun i _ => ?_)
    rw [b_0]
    rcases Nat.lt_or_ge i 16 with q | q
    · exact fb_ct_zero.mp h i q
    · exact hx i q
  · intro h
    rw [h]
    exact fb_ct_zero.mpr (fun i _ => b_0 i)
/-! pieces -/
theorem grow_sup {th : Nat → Int32} {core x : Int32} {j : Nat} (h : bt x j = true) : ∀ i, bt (growI th core x i) j = true
  | 0 => h
  | i + 1 => by
    rw [growI]
    split
    · rw [b_or, grow_sup h i]; rfl
    · exact grow_sup h i
theorem itr_bt {f : Int32 → Int32} {j : Nat} (hf : ∀ x, bt x j = true → bt (f x) j = true) {x : Int32} (h : bt x j = true) : ∀ i, bt (itr f i x) j = true
  | 0 => h
  | i + 1 => by rw [itr]; exact hf _ (itr_bt hf h i)
theorem piece_in {th : Nat → Int32} {core : Int32} {j : Nat} (hj : j < 16) : bt (pieceI th core j) j = true :=
  itr_bt (fun x h => grow_sup h 16) (by rw [bitI, b_bit (by omega)]; simp) 16
theorem pieces_le {th : Nat → Int32} {core : Int32} : ∀ i, i ≤ 16 → (piecesI th core i).1 + ct (piecesI th core i).2 ≤ ct core
  | 0, _ => by show 0 + ct core ≤ ct core; omega
  | i + 1, hi => by
    have ih := pieces_le (th := th) (core := core) i (by omega)
    rw [piecesI]
    by_cases h : bt (piecesI th core i).2 i = true
    · rw [if_pos h]
      show (piecesI th core i).1 + 1 + ct ((piecesI th core i).2 &&& (pieceI th core i ^^^ (-1))) ≤ ct core
      have h2 : ct ((piecesI th core i).2 &&& (pieceI th core i ^^^ (-1))) < ct (piecesI th core i).2 := fb_ct_lt (i := i) (fun k _ hk => by
        rw [b_and, Bool.and_eq_true] at hk; exact hk.1) (by omega) h (by rw [b_and, bt_m1 (by omega), piece_in (by omega)]; simp)
      omega
    · rw [if_neg h]; exact ih
theorem pieces_0 {th : Nat → Int32} {core : Int32} : ∀ i, i ≤ 16 → (piecesI th core i).1 = 0 → (piecesI th core i).2 = core ∧ ∀ k, k < i → bt core k = false
  | 0, _, _ => ⟨rfl, fun k h => absurd h (Nat.not_lt_zero _)⟩
  | i + 1, hi, h0 => by
    rw [piecesI] at h0 ⊢
    by_cases h : bt (piecesI th core i).2 i = true
    · rw [if_pos h] at h0
      exact absurd h0 (Nat.succ_ne_zero _)
    · rw [if_neg h] at h0 ⊢
      obtain ⟨a, b⟩ := pieces_0 i (by omega) h0
      refine ⟨a, fun k hk => ?_⟩
      by_cases e : k = i
      · rw [e, ← a]; simpa using h
      · exact b k (by omega)
theorem pieces_z {th : Nat → Int32} {core : Int32} (hc : sm core) : (piecesI th core 16).1 = 0 ↔ core = 0 := by
  constructor
  · intro h
    obtain ⟨-, b⟩ := pieces_0 16 (Nat.le_refl _) h
    exact (ct_0 hc).mp (fb_ct_zero.mpr b)
  · intro h
    have h1 := pieces_le (th := th) (core := core) 16 (Nat.le_refl _)
    rw [(ct_0 hc).mpr h] at h1
    omega
/-! the plant that is best propped up -/
theorem best_is {th : Nat → Int32} {pr : Int32} {n k : Nat} : ∀ i, ((∀ q, q < i → bt pr q = true) ∧ bestI th pr n k i = (0, -1)) ∨ ((bestI th pr n k i).1 < i ∧ bt pr (bestI th pr n k i).1 = false ∧ ∃ z, (bestI th pr n k i).2 = nI z ∧ z ≤ 16)
  | 0 => Or.inl ⟨fun q h => absurd h (Nat.not_lt_zero _), rfl⟩
  | i + 1 => by
    rw [bestI]
    by_cases h : bt pr i = true
    · rw [if_pos h]
      rcases best_is i with ⟨a, b⟩ | ⟨a, b, c⟩
      · refine Or.inl ⟨fun q hq => ?_, b⟩
        by_cases e : q = i
        · rw [e]; exact h
        · exact a q (by omega)
      · exact Or.inr ⟨by omega, b, c⟩
    · rw [if_neg h]
      have hf : bt pr i = false := by simpa using h
      by_cases h2 : (bestI th pr n k i).2 < nI (propSize th pr n k i)
      · rw [if_pos h2]
        exact Or.inr ⟨Nat.lt_succ_self i, hf, propSize th pr n k i, rfl, ct_le _⟩
      · rw [if_neg h2]
        rcases best_is i with ⟨a, b⟩ | ⟨a, b, c⟩
        · refine absurd ?_ h2
          rw [b]
          have hz := ct_le (coreI th (pr ||| bitI (nI i)) k (allI n))
          exact Int32.lt_of_lt_of_le (b := nI 0) (by decide +kernel) (nI_le (Nat.zero_le _) (by unfold propSize; omega))
        · exact Or.inr ⟨by omega, b, c⟩
theorem best_ok {th : Nat → Int32} {pr : Int32} {n k : Nat} (hT : TV n pr th) (hne : pr ≠ allI n) : (bestI th pr n k n).1 < n ∧ bt pr (bestI th pr n k n).1 = false := by
  rcases best_is (th := th) (pr := pr) (n := n) (k := k) n with ⟨a, -⟩ | ⟨a, b, -⟩
  · refine absurd (b_ext (fun i _ => ?_)) hne
    rw [bt_all hT.1]
    by_cases h : i < n
    · rw [a i h, decide_eq_true h]
    · rw [decide_eq_false h]
      cases q : bt pr i
      · rfl
      · exact absurd (hT.2.1 i q) h
  · exact ⟨a, b⟩
theorem pr_all {th : Nat → Int32} {pr : Int32} {n : Nat} (hT : TV n pr th) (h : fb_ct (bt pr) n ≠ n) : pr ≠ allI n := fun e => h (by
  rw [e]
  exact fb_ct_all.mpr (fun k hk => by rw [bt_all hT.1]; simpa using hk))
theorem pr_none {th : Nat → Int32} {pr : Int32} {n : Nat} (hT : TV n pr th) (h : fb_ct (bt pr) n = 0) : pr = 0 := b_ext (fun i _ => by
  rw [b_0]
  cases q : bt pr i
  · rfl
  · have h1 := fb_ct_zero.mp h i (hT.2.1 i q)
    rw [q] at h1; cases h1)
/-! numbers of cores -/
theorem coreN_le (th : Nat → Int32) (pr : Int32) (n j : Nat) : coreN th pr n j ≤ 15 := topK_le _ _
theorem coreN_in {th : Nat → Int32} {pr : Int32} {n j : Nat} (hT : TV n pr th) (hj : j < n) : bt (coreI th pr (coreN th pr n j) (allI n)) j = true := (core_iff hT.1 hj (coreN_le _ _ _ _)).mpr (Nat.le_refl _)
theorem coreN_deg {th : Nat → Int32} {pr : Int32} {n j : Nat} (hT : TV n pr th) (hj : j < n) (hp : bt pr j = false) : coreN th pr n j ≤ ct (th j) :=
  Nat.le_trans (core_deg hT hj (coreN_in hT hj) hp) (ct_sub (fun i _ h => by rw [b_and, Bool.and_eq_true] at h; exact h.1))
theorem free_in {th : Nat → Int32} {pr : Int32} {n j k : Nat} (hk : k ≤ 15) (hj : j < 16) (h : bt (coreI th pr k (allI n)) j = true) (hp : bt pr j = false) : k ≤ freeN th pr n :=
  topK_ge hk (fun _ => by
    unfold freeF
    rw [decide_eq_false]
    · rfl
    · intro e
      have h1 : bt (coreI th pr k (allI n) &&& (pr ^^^ (-1))) j = false := by rw [e, b_0]
      rw [b_and, bt_m1 (by omega), h, hp] at h1
      cases h1)
theorem coreN_free {th : Nat → Int32} {pr : Int32} {n j : Nat} (hT : TV n pr th) (hj : j < n) (hp : bt pr j = false) : coreN th pr n j ≤ freeN th pr n :=
  free_in (coreN_le _ _ _ _) (by have := hT.1; omega) (coreN_in hT hj) hp
/-! trusses -/
theorem trN_le (th : Nat → Int32) (n i j : Nat) : trN th n i j ≤ 15 := topK_le _ _
theorem trN_sy {th : Nat → Int32} {pr : Int32} {n i j : Nat} (hT : TV n pr th) (hi : i < 16) (hj : j < 16) : trN th n j i = trN th n i j :=
  topK_cong (fun k _ _ => (trE_is (k := k) hT).1.1.2.2.2 j i hj hi)
theorem trN_in {th : Nat → Int32} {pr : Int32} {n i j : Nat} (hT : TV n pr th) (hi : i < 16) (hb : bt (th i) j = true) : bt (trE th n (trN th n i j) i) j = true := (tr_iff hT hi hb (trN_le _ _ _ _)).mpr (Nat.le_refl _)
theorem trN_sup {th : Nat → Int32} {pr : Int32} {n i j : Nat} (hT : TV n pr th) (hi : i < 16) (hj : j < 16) (hb : bt (th i) j = true) : trN th n i j ≤ ct (th i &&& th j) := by
  have h := trE_is (k := trN th n i j) hT
  refine Nat.le_trans (h.2 i j hi (trN_in hT hi hb)) (ct_sub (fun t _ w => ?_))
  rw [b_and, Bool.and_eq_true] at w ⊢
  exact ⟨h.1.2.1 i hi t w.1, h.1.2.1 j hj t w.2⟩
theorem trS_pos {th : Nat → Int32} {pr : Int32} {n i j : Nat} (hT : TV n pr th) (hi : i < 16) (hj : j < 16) (hb : bt (th i) j = true) : 0 < sumE (trE th n (trN th n i j)) / 2 := by
  have h := sumE_drop (trE_is (k := trN th n i j) hT).1.1 hi hj (trN_in hT hi hb)
  omega
theorem trS_0 {th : Nat → Int32} {pr : Int32} {n : Nat} (hT : TV n pr th) : sumE (trE th n 0) = sumE th := fb_sm_cong (fun i hi => by
  show ct (trE th n 0 i) = ct (th i)
  rw [tr_all hT hi])
theorem trS_down {th : Nat → Int32} {pr : Int32} {n a b : Nat} (hT : TV n pr th) (h : a ≤ b) : sumE (trE th n b) ≤ sumE (trE th n a) := fb_sm_le (fun i hi => ct_sub (fun t _ w => tr_mono hT h i hi t w))
/-! places -/
theorem lef_less {th : Nat → Int32} {pr : Int32} {n j : Nat} (hT : TV n pr th) {a : Nat} : ∀ d, bt (lefS th pr n (a + d)) j = true → bt (lefS th pr n a) j = true
  | 0, h => h
  | d + 1, h => by
    rw [← Nat.add_assoc, lef_bt hT, Bool.and_eq_true] at h
    exact lef_less hT d h.1
theorem ord_inj {th : Nat → Int32} {pr : Int32} {n x y : Nat} (hT : TV n pr th) (hy : y < n) (hxy : x < y) : ordN th pr n x ≠ ordN th pr n y := fun e => by
  have h1 := (ord_in hT hy).2
  rw [show y = (x + 1) + (y - (x + 1)) by omega] at h1
  have h2 := lef_less hT _ h1
  rw [lef_bt hT, ← show y = (x + 1) + (y - (x + 1)) by omega, e] at h2
  simp at h2
noncomputable def plN (th : Nat → Int32) (pr : Int32) (n j : Nat) : Nat := Classical.epsilon (fun x => x < n ∧ ordN th pr n x = j)
theorem pl_is {th : Nat → Int32} {pr : Int32} {n j : Nat} (hT : TV n pr th) (hj : j < n) : plN th pr n j < n ∧ ordN th pr n (plN th pr n j) = j := Classical.epsilon_spec (p := fun x => x < n ∧ ordN th pr n x = j) (ord_onto hT hj)
theorem pl_eq {th : Nat → Int32} {pr : Int32} {n j x : Nat} (hT : TV n pr th) (hj : j < n) (hx : x < n) (h : ordN th pr n x = j) : x = plN th pr n j := by
  obtain ⟨h1, h2⟩ := pl_is hT hj
  rcases Nat.lt_trichotomy x (plN th pr n j) with q | q | q
  · exact absurd (h.trans h2.symm) (ord_inj hT h1 q)
  · exact q
  · exact absurd (h2.trans h.symm) (ord_inj hT hx q)
theorem lef_pl {th : Nat → Int32} {pr : Int32} {n j : Nat} (hT : TV n pr th) (hj : j < n) : ∀ x, x ≤ n → bt (lefS th pr n x) j = decide (x ≤ plN th pr n j)
  | 0, _ => by
    show bt (allI n) j = _
    rw [bt_all hT.1, decide_eq_true hj, decide_eq_true (Nat.zero_le _)]
  | x + 1, hx => by
    rw [lef_bt hT, lef_pl hT hj x (by omega)]
    by_cases e : j = ordN th pr n x
    · have h1 := pl_eq hT hj (show x < n by omega) e.symm
      rw [← h1]
      simp [e]
    · have h1 : plN th pr n j ≠ x := fun q => e (by rw [← q]; exact (pl_is hT hj).2.symm)
      rw [decide_eq_false e, Bool.not_false, Bool.and_true]
      by_cases w : x ≤ plN th pr n j
      · rw [decide_eq_true w, decide_eq_true (by omega)]
      · rw [decide_eq_false w, decide_eq_false (by omega)]
theorem pl_count {th : Nat → Int32} {pr : Int32} {n j : Nat} (hT : TV n pr th) (hj : j < n) : fb_ct (fun q => decide (plN th pr n q < plN th pr n j)) n = plN th pr n j := by
  obtain ⟨h1, -⟩ := pl_is hT hj
  have e1 := ct_lef hT (plN th pr n j) (by omega)
  have e2 : ct (lefS th pr n (plN th pr n j)) = fb_ct (fun q => decide (plN th pr n j ≤ plN th pr n q)) n := by
    rw [ct_n hT.1 (fun i h _ => by
      cases q : bt (lefS th pr n (plN th pr n j)) i
      · rfl
      · have := lef_sub _ i q
        rw [bt_all hT.1, decide_eq_false (by omega)] at this
        cases this)]
    exact fb_ct_cong (fun q hq => lef_pl hT hq _ (by omega))
  have e3 := fb_ct_not (fun q => decide (plN th pr n j ≤ plN th pr n q)) n
  have e4 : fb_ct (fun q => !decide (plN th pr n j ≤ plN th pr n q)) n = fb_ct (fun q => decide (plN th pr n q < plN th pr n j)) n := fb_ct_cong (fun q _ => by
    by_cases w : plN th pr n j ≤ plN th pr n q
    · rw [decide_eq_true w, decide_eq_false (by omega)]; rfl
    · rw [decide_eq_false w, decide_eq_true (by omega)]; rfl)
  rw [← e4]
  omega
theorem pl_prop {th : Nat → Int32} {pr : Int32} {n p q : Nat} (hT : TV n pr th) (hp : p < n) (hq : q < n) (h1 : bt pr p = true) (h2 : bt pr q = false) : plN th pr n q < plN th pr n p := by
  have hn := hT.1
  obtain ⟨a, b⟩ := pl_is hT hp
  have hl := (ord_in hT a).2
  obtain ⟨-, -, hw, -⟩ := next_in hT (lef_sub (plN th pr n p)) ⟨_, hl⟩
  have hw : bt (wtI pr (lefS th pr n (plN th pr n p))) p = true := by
    have e : nextN th pr n (lefS th pr n (plN th pr n p)) = p := b
    rw [e] at hw; exact hw
  rcases Nat.lt_or_ge (plN th pr n q) (plN th pr n p) with c | c
  · exact c
  · have hb : bt (lefS th pr n (plN th pr n p)) q = true := by rw [lef_pl hT hq _ (by omega), decide_eq_true c]
    unfold wtI at hw
    by_cases z : frI pr (lefS th pr n (plN th pr n p)) = 0
    · have h3 : bt (frI pr (lefS th pr n (plN th pr n p))) q = false := by rw [z, b_0]
      rw [bt_fr (by omega), hb, h2] at h3
      cases h3
    · rw [if_neg z, bt_fr (by omega), h1] at hw
      simp at hw
