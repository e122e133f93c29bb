/-! ===== p38: colors ===== -/
theorem bt_tk (g : Nat → Nat) (S : Int32) {c : Nat} (hg : ∀ q, g q ≤ 15) : ∀ i, i ≤ 16 → (bt (tkI g S i) c = true ↔ ∃ q, q < i ∧ bt S q = true ∧ g q = c)
  | 0, _ => by
    constructor
    · intro h; rw [tkI, b_0] at h; cases h
    · rintro ⟨q, h, -⟩; exact absurd h (Nat.not_lt_zero _)
  | i + 1, hi => by
    have ih := bt_tk g S (c := c) hg i (by omega)
    rw [tkI]
    by_cases h : bt S i = true
    · rw [if_pos h, b_or, bitI, b_bit (by have := hg i; omega), Bool.or_eq_true, ih, decide_eq_true_eq]
      constructor
      · rintro (⟨q, a, b, d⟩ | e)
        · exact ⟨q, by omega, b, d⟩
        · exact ⟨i, Nat.lt_succ_self i, h, e.symm⟩
      · rintro ⟨q, a, b, d⟩
        by_cases e : q = i
        · subst e; exact Or.inr d.symm
        · exact Or.inl ⟨q, by omega, b, d⟩
    · rw [if_neg h, ih]
      constructor
      · rintro ⟨q, a, b, d⟩; exact ⟨q, by omega, b, d⟩
      · rintro ⟨q, a, b, d⟩
        by_cases e : q = i
        · subst e; exact absurd b h
        · exact ⟨q, by omega, b, d⟩
theorem lcG_is (T : Int32) : ∀ f c, (∃ x, c ≤ x ∧ x < c + f ∧ bt T x = false) → bt T (lcG T f c) = false ∧ ∀ y, c ≤ y → y < lcG T f c → bt T y = true
  | 0, c, h => by
    obtain ⟨x, h1, h2, -⟩ := h
    exact absurd h2 (by omega)
  | f + 1, c, h0 => by
    obtain ⟨x, h1, h2, h3⟩ := h0
    rw [lcG]
    by_cases h : bt T c = true
    · rw [if_pos h]
      have hx : c ≠ x := fun e => by rw [e, h3] at h; cases h
      obtain ⟨a, b⟩ := lcG_is T f (c + 1) ⟨x, by omega, by omega, h3⟩
      refine ⟨a, fun y hy hl => ?_⟩
      by_cases e : y = c
      · rw [e]; exact h
      · exact b y (by omega) hl
    · rw [if_neg h]
      exact ⟨by simpa using h, fun y h1 h2 => absurd h2 (by omega)⟩
theorem ct_orb {x : Int32} {c : Nat} (hc : c < 16) : ct (x ||| bitI (nI c)) ≤ ct x + 1 := by
  have h := fb_ct_upd (bt x) true hc
  have e : ct (x ||| bitI (nI c)) = fb_ct (fun k => if k = c then true else bt x k) 16 := fb_ct_cong (fun k _ => by
    rw [b_or, bitI, b_bit (by omega)]
    by_cases q : k = c
    · simp [q]
    · simp [q])
  rw [e]
  exact Nat.le_trans (Nat.le_add_right _ (if bt x c = true then 1 else 0)) (Nat.le_of_eq h)
theorem ct_tk (g : Nat → Nat) (S : Int32) (hg : ∀ q, g q ≤ 15) : ∀ i, ct (tkI g S i) ≤ fb_ct (bt S) i
  | 0 => by rw [tkI, (ct_0 sm_0).mpr rfl]; exact Nat.zero_le _
  | i + 1 => by
    have ih := ct_tk g S hg i
    rw [tkI, fb_ct_succ]
    by_cases h : bt S i = true
    · rw [if_pos h, if_pos h]
      exact Nat.le_trans (ct_orb (by have := hg i; omega)) (by omega)
    · rw [if_neg h, if_neg h]; omega
theorem lcN_is {T : Int32} (h : ct T ≤ 15) : bt T (lcN T) = false ∧ lcN T ≤ ct T := by
  have hex : ∃ x, 0 ≤ x ∧ x < 0 + 16 ∧ bt T x = false := by
    refine Classical.byContradiction fun hno => ?_
    have h1 : ct T = 16 := fb_ct_all.mpr (fun k hk => by
      cases q : bt T k
      · exact absurd ⟨k, Nat.zero_le _, by omega, q⟩ hno
      · rfl)
    omega
  obtain ⟨a, b⟩ := lcG_is T 16 0 hex
  refine ⟨a, ?_⟩
  have h1 : fb_ct (bt T) (lcN T) = lcN T := fb_ct_all.mpr (fun k hk => b k (Nat.zero_le _) hk)
  have h2 : fb_ct (bt T) (lcN T) ≤ fb_ct (bt T) 16 := fb_ct_mono _ (by have := lcN_le T; omega)
  rw [h1] at h2
  exact h2
/-- the colors that the neighbors of j have when j gets its own -/
noncomputable def tkN (th : Nat → Int32) (pr : Int32) (n j : Nat) : Int32 := tkI (colS th pr n (n - 1 - plN th pr n j)).1 (th j &&& (colS th pr n (n - 1 - plN th pr n j)).2) n
theorem col_at {th : Nat → Int32} {pr : Int32} {n j : Nat} (hT : TV n pr th) (hj : j < n) : ∀ d, d ≤ plN th pr n j → (colS th pr n (n - plN th pr n j + d)).1 j = lcN (tkN th pr n j)
  | 0, _ => by
    obtain ⟨h1, h2⟩ := pl_is hT hj
    obtain ⟨m, hm⟩ : ∃ m, n - plN th pr n j = m + 1 := ⟨n - plN th pr n j - 1, by omega⟩
    have hm2 : n - 1 - plN th pr n j = m := by omega
    have hv : ordN th pr n (n - 1 - m) = j := by rw [show n - 1 - m = plN th pr n j by omega]; exact h2
    rw [Nat.add_zero, hm]
    show updN (colS th pr n m).1 (ordN th pr n (n - 1 - m)) _ j = _
    rw [hv, updN_same]
    unfold tkN
    rw [hm2]
  | d + 1, hd => by
    obtain ⟨h1, h2⟩ := pl_is hT hj
    have ih := col_at hT hj d (by omega)
    rw [← Nat.add_assoc]
    generalize hm : n - plN th pr n j + d = m at ih ⊢
    show updN (colS th pr n m).1 (ordN th pr n (n - 1 - m)) _ j = _
    rw [updN_ne _ _ (fun e => by
      have h3 := pl_eq hT hj (show n - 1 - m < n by omega) e.symm
      omega)]
    exact ih
theorem colN_at {th : Nat → Int32} {pr : Int32} {n j : Nat} (hT : TV n pr th) (hj : j < n) : colN th pr n j = lcN (tkN th pr n j) := by
  obtain ⟨h1, -⟩ := pl_is hT hj
  have h := col_at hT hj (plN th pr n j) (Nat.le_refl _)
  rw [show n - plN th pr n j + plN th pr n j = n by omega] at h
  exact h
/-- a neighbor that falls later has its color already -/
theorem col_later {th : Nat → Int32} {pr : Int32} {n j q : Nat} (hT : TV n pr th) (hj : j < n) (hq : q < n) (h : plN th pr n j < plN th pr n q) : bt (colS th pr n (n - 1 - plN th pr n j)).2 q = true ∧ (colS th pr n (n - 1 - plN th pr n j)).1 q = colN th pr n q := by
  obtain ⟨h1, h2⟩ := pl_is hT hq
  refine ⟨(col_has hT _ (by omega)).mpr ⟨plN th pr n q, by omega, h1, h2⟩, ?_⟩
  have h3 := col_at hT hq (plN th pr n q - plN th pr n j - 1) (by omega)
  rw [show n - plN th pr n q + (plN th pr n q - plN th pr n j - 1) = n - 1 - plN th pr n j by omega] at h3
  rw [h3, colN_at hT hq]
theorem tk_le {th : Nat → Int32} {pr : Int32} {n j : Nat} (hT : TV n pr th) (hj : j < n) : ct (tkN th pr n j) ≤ ct (th j &&& (colS th pr n (n - 1 - plN th pr n j)).2) :=
  Nat.le_trans (ct_tk _ _ (fun q => colS_le _ q) n) (fb_ct_mono _ hT.1)
theorem tk_15 {th : Nat → Int32} {pr : Int32} {n j : Nat} (hT : TV n pr th) (hj : j < n) : ct (tkN th pr n j) ≤ 15 :=
  Nat.le_trans (tk_le hT hj) (Nat.le_trans (ct_sub (fun i _ h => by rw [b_and, Bool.and_eq_true] at h; exact h.1)) (ct_th hT (by have := hT.1; omega)))
theorem col_one {th : Nat → Int32} {pr : Int32} {n p q : Nat} (hT : TV n pr th) (hp : p < n) (hq : q < n) (hb : bt (th p) q = true) (h : plN th pr n p < plN th pr n q) : colN th pr n p ≠ colN th pr n q := fun e => by
  obtain ⟨a, b⟩ := col_later hT hp hq h
  have h1 := (lcN_is (tk_15 hT hp)).1
  rw [← colN_at hT hp, e] at h1
  have h2 : bt (tkN th pr n p) (colN th pr n q) = true := (bt_tk _ _ (fun x => colS_le _ x) n hT.1).mpr ⟨q, hq, by rw [b_and, hb, a]; rfl, b⟩
  rw [h1] at h2; cases h2
theorem col_ne {th : Nat → Int32} {pr : Int32} {n p q : Nat} (hT : TV n pr th) (hp : p < n) (hq : q < n) (hb : bt (th p) q = true) : colN th pr n p ≠ colN th pr n q := by
  have hn := hT.1
  rcases Nat.lt_trichotomy (plN th pr n p) (plN th pr n q) with h | h | h
  · exact col_one hT hp hq hb h
  · have h1 := (pl_is hT hp).2
    rw [h, (pl_is hT hq).2] at h1
    rw [h1, irr hT (by omega)] at hb
    cases hb
  · exact fun e => col_one hT hq hp (by rw [← hT.2.2.2 p q (by omega) (by omega)]; exact hb) h e.symm
theorem fr_0 {L : Int32} : frI 0 L = L := b_ext (fun i hi => by rw [bt_fr hi, b_0]; simp)
theorem col_free {th : Nat → Int32} {n p : Nat} (hT : TV n 0 th) (hp : p < n) : colN th 0 n p ≤ freeN th 0 n := by
  have hn := hT.1
  obtain ⟨hx, ho⟩ := pl_is hT hp
  have hpL : bt (lefS th 0 n (plN th 0 n p)) p = true := by rw [lef_pl hT hp _ (by omega), decide_eq_true (Nat.le_refl _)]
  have hne : ¬ lefS th 0 n (plN th 0 n p) = 0 := fun e => by rw [e, b_0] at hpL; cases hpL
  have hw : ∀ L : Int32, ¬ L = 0 → wtI 0 L = L := fun L h => by unfold wtI; rw [fr_0, if_neg h]
  have hnb : ∀ q, nbN th 0 (lefS th 0 n (plN th 0 n p)) q = ct (th q &&& lefS th 0 n (plN th 0 n p)) := fun q => by unfold nbN; rw [fr_0, if_neg hne]
  obtain ⟨-, -, -, hmin, -⟩ := next_in hT (lef_sub (plN th 0 n p)) ⟨p, hpL⟩
  have hnx : nextN th 0 n (lefS th 0 n (plN th 0 n p)) = p := ho
  rw [hnx, hw _ hne] at hmin
  simp only [hnb] at hmin
  have h1 : colN th 0 n p ≤ ct (th p &&& lefS th 0 n (plN th 0 n p)) := by
    rw [colN_at hT hp]
    refine Nat.le_trans (lcN_is (tk_15 hT hp)).2 (Nat.le_trans (tk_le hT hp) (ct_sub (fun i _ h => ?_)))
    rw [b_and, Bool.and_eq_true] at h ⊢
    refine ⟨h.1, ?_⟩
    obtain ⟨y, y1, y2, y3⟩ := (col_has hT _ (by omega)).mp h.2
    have hi : i < n := by rw [← y3]; exact (ord_in hT y2).1
    rw [lef_pl hT hi _ (by omega), ← pl_eq hT hi y2 y3]
    exact decide_eq_true (by omega)
  refine Nat.le_trans h1 (free_in (j := p) ?_ (by omega) ?_ (b_0 p))
  · exact Nat.le_trans (ct_sub (fun i _ h => by rw [b_and, Bool.and_eq_true] at h; exact h.1)) (ct_th hT (by omega))
  · refine core_max (lef_sm hn _) (lef_sub _) (fun i hi hb => Or.inr ?_) p hpL
    have hin : i < n := by
      have := lef_sub _ i hb
      rw [bt_all hn] at this
      simpa using this
    exact hmin i hin hb
theorem colM_free {th : Nat → Int32} {n : Nat} (hT : TV n 0 th) : ∀ i, i ≤ n → colM th 0 n i ≤ freeN th 0 n + 1
  | 0, _ => Nat.zero_le _
  | i + 1, hi => by
    rw [colM]
    split
    · have := col_free hT (show i < n by omega); omega
    · exact colM_free hT i (by omega)
theorem colM_lt {th : Nat → Int32} {pr : Int32} {n p : Nat} : ∀ i, p < i → colN th pr n p < colM th pr n i
  | 0, h => absurd h (Nat.not_lt_zero _)
  | i + 1, h => by
    rw [colM]
    by_cases e : p = i
    · subst e
      split
      · omega
      · omega
    · have := colM_lt (th := th) (pr := pr) (n := n) (p := p) i (by omega)
      split
      · omega
      · omega
