/-! ===== the order in which plants fall away; colors ===== -/
def frI (pr L : Int32) : Int32 := L &&& (pr ^^^ (-1))
def wtI (pr L : Int32) : Int32 := if frI pr L = 0 then L else frI pr L
def nbN (th : Nat → Int32) (pr L : Int32) (p : Nat) : Nat := if frI pr L = 0 then 0 else ct (th p &&& L)
/-- the best plant so far, and its number of neighbors -/
def nxtP (th : Nat → Int32) (pr L : Int32) : Nat → Nat × Nat
  | 0 => (0, 16)
  | i + 1 => if bt (wtI pr L) i = true ∧ nbN th pr L i < (nxtP th pr L i).2 then (i, nbN th pr L i) else nxtP th pr L i
def nextN (th : Nat → Int32) (pr : Int32) (n : Nat) (L : Int32) : Nat := (nxtP th pr L n).1
/-- what is left when i plants have fallen -/
def lefS (th : Nat → Int32) (pr : Int32) (n : Nat) : Nat → Int32
  | 0 => allI n
  | i + 1 => lefS th pr n i &&& (bitI (nI (nextN th pr n (lefS th pr n i))) ^^^ (-1))
def ordN (th : Nat → Int32) (pr : Int32) (n i : Nat) : Nat := nextN th pr n (lefS th pr n i)
theorem bt_fr {pr L : Int32} {i : Nat} (hi : i < 32) : bt (frI pr L) i = (bt L i && !bt pr i) := by rw [frI, b_and, bt_m1 hi]
theorem wt_sub {pr L : Int32} : sub (wtI pr L) L := fun i h => by
  unfold wtI at h
  split at h
  · exact h
  · rw [frI, b_and, Bool.and_eq_true] at h; exact h.1
theorem nb_lt {th : Nat → Int32} {n p : Nat} {pr L : Int32} (hT : TV n pr th) (hp : p < 16) : nbN th pr L p < 16 := by
  unfold nbN
  split
  · omega
  · have := ct_th hT hp
    have : ct (th p &&& L) ≤ ct (th p) := ct_sub fun t _ w => by rw [b_and, Bool.and_eq_true] at w; exact w.1
    omega
/-- the best of the first i: it waits, it has the fewest, and those before it have more -/
theorem nxt_is {th : Nat → Int32} {n : Nat} {pr L : Int32} (hT : TV n pr th) : ∀ i, i ≤ n → ((∀ q, q < i → bt (wtI pr L) q = false) ∧ nxtP th pr L i = (0, 16)) ∨ ((nxtP th pr L i).1 < i ∧ bt (wtI pr L) (nxtP th pr L i).1 = true ∧ (nxtP th pr L i).2 = nbN th pr L (nxtP th pr L i).1 ∧ (∀ q, q < i → bt (wtI pr L) q = true → nbN th pr L (nxtP th pr L i).1 ≤ nbN th pr L q) ∧ ∀ q, q < (nxtP th pr L i).1 → bt (wtI pr L) q = true → nbN th pr L (nxtP th pr L i).1 < nbN th pr L q)
  | 0, _ => Or.inl ⟨fun q h => absurd h (Nat.not_lt_zero _), rfl⟩
  | i + 1, hi => by
    have hn := hT.1
    have hb := nb_lt (L := L) hT (show i < 16 by omega)
    rw [nxtP]
    rcases nxt_is hT i (by omega) with ⟨h1, h2⟩ | ⟨h1, h2, h3, h4, h5⟩
    · by_cases q : bt (wtI pr L) i = true
      · rw [if_pos ⟨q, by rw [h2]; exact hb⟩]
        refine Or.inr ⟨Nat.lt_succ_self i, q, rfl, fun x hx hw => ?_, fun x hx hw => ?_⟩
        · by_cases e : x = i
          · rw [e]; exact Nat.le_refl _
          · rw [h1 x (by omega)] at hw; cases hw
        · rw [h1 x hx] at hw; cases hw
      · rw [if_neg (fun w => q w.1)]
        refine Or.inl ⟨fun x hx => ?_, h2⟩
        by_cases e : x = i
        · rw [e]; simpa using q
        · exact h1 x (by omega)
    · by_cases q : bt (wtI pr L) i = true ∧ nbN th pr L i < (nxtP th pr L i).2
      · rw [if_pos q]
        rw [h3] at q
        refine Or.inr ⟨Nat.lt_succ_self i, q.1, rfl, fun x hx hw => ?_, fun x hx hw => ?_⟩
        · by_cases e : x = i
          · rw [e]; exact Nat.le_refl _
          · have := h4 x (by omega) hw; show nbN th pr L i ≤ _; omega
        · have := h4 x hx hw; show nbN th pr L i < _; omega
      · rw [if_neg q]
        refine Or.inr ⟨by omega, h2, h3, fun x hx hw => ?_, h5⟩
        by_cases e : x = i
        · subst e
          rcases Nat.lt_or_ge (nbN th pr L x) (nxtP th pr L x).2 with w | w
          · exact absurd ⟨hw, w⟩ q
          · rw [h3] at w; exact w
        · exact h4 x (by omega) hw
theorem nxt_lt {th : Nat → Int32} {n : Nat} {pr L : Int32} (hT : TV n pr th) : ∀ i, i ≤ n → (nxtP th pr L i).1 < 16 ∧ (nxtP th pr L i).2 ≤ 16 := fun i hi => by
  have hn := hT.1
  rcases nxt_is (L := L) hT i hi with ⟨-, h⟩ | ⟨h1, -, h3, -⟩
  · rw [h]; exact ⟨by decide, by decide⟩
  · have := nb_lt (L := L) hT (show (nxtP th pr L i).1 < 16 by omega)
    exact ⟨by omega, by omega⟩
/-- who falls next, from a set that isn't empty -/
theorem next_in {th : Nat → Int32} {n : Nat} {pr L : Int32} (hT : TV n pr th) (hL : sub L (allI n)) (hne : ∃ q, bt L q = true) : nextN th pr n L < n ∧ bt L (nextN th pr n L) = true ∧ bt (wtI pr L) (nextN th pr n L) = true ∧ (∀ q, q < n → bt (wtI pr L) q = true → nbN th pr L (nextN th pr n L) ≤ nbN th pr L q) ∧ ∀ q, q < nextN th pr n L → bt (wtI pr L) q = true → nbN th pr L (nextN th pr n L) < nbN th pr L q := by
  have hn := hT.1
  have hw : ∃ q, bt (wtI pr L) q = true := by
    unfold wtI
    split
    · exact hne
    · next h =>
      refine Classical.byContradiction fun hno => h ?_
      apply b_ext
      intro i _
      rw [b_0]
      cases hz : bt (frI pr L) i with
      | false => rfl
      | true => exact absurd ⟨i, hz⟩ hno
  obtain ⟨q, hq⟩ := hw
  have hqn : q < n := by have := hL q (wt_sub q hq); rw [bt_all hn] at this; simpa using this
  rcases nxt_is (L := L) hT n (Nat.le_refl _) with ⟨h, -⟩ | ⟨h1, h2, -, h4, h5⟩
  · rw [h q hqn] at hq; cases hq
  · exact ⟨h1, wt_sub _ h2, h2, h4, h5⟩
theorem next_lt {th : Nat → Int32} {n : Nat} {pr L : Int32} (hT : TV n pr th) : nextN th pr n L < 16 := (nxt_lt hT n (Nat.le_refl _)).1
theorem lef_sub {th : Nat → Int32} {n : Nat} {pr : Int32} : ∀ i, sub (lefS th pr n i) (allI n)
  | 0 => fun _ h => h
  | i + 1 => fun j h => by
    rw [lefS, b_and, Bool.and_eq_true] at h
    exact lef_sub i j h.1
theorem sm_sub {A B : Int32} (hB : sm B) (h : sub A B) : sm A := fun i hi => by
  cases hz : bt A i with
  | false => rfl
  | true => have := h i hz; rw [hB i hi] at this; cases this
theorem lef_sm {th : Nat → Int32} {n : Nat} {pr : Int32} (hn : n ≤ 16) (i : Nat) : sm (lefS th pr n i) := sm_sub (sm_all hn) (lef_sub i)
theorem lef_bt {th : Nat → Int32} {n : Nat} {pr : Int32} (hT : TV n pr th) (i j : Nat) : bt (lefS th pr n (i + 1)) j = (bt (lefS th pr n i) j && !decide (j = ordN th pr n i)) := by
  rw [lefS, bt_clear (lef_sm hT.1 i) (next_lt hT)]; rfl
theorem ct_all {n : Nat} (hn : n ≤ 16) : ct (allI n) = n := by
  rw [ct_n hn (fun i h _ => by rw [bt_all hn, decide_eq_false (by omega)])]
  exact fb_ct_all.mpr fun k hk => by rw [bt_all hn]; simpa using hk
theorem ct_lef {th : Nat → Int32} {n : Nat} {pr : Int32} (hT : TV n pr th) : ∀ i, i ≤ n → ct (lefS th pr n i) + i = n
  | 0, _ => by rw [lefS, ct_all hT.1]; rfl
  | i + 1, hi => by
    have ih := ct_lef hT i (by omega)
    have hne : ∃ q, bt (lefS th pr n i) q = true := by
      have : 0 < ct (lefS th pr n i) := by omega
      obtain ⟨q, -, h⟩ := fb_ct_pos.mp this
      exact ⟨q, h⟩
    obtain ⟨h1, h2, -⟩ := next_in hT (lef_sub i) hne
    have := ct_clear (lef_sm hT.1 i) (q := nextN th pr n (lefS th pr n i)) (next_lt hT) h2
    rw [lefS]
    omega
/-- each of the n turns takes one that is left -/
theorem ord_in {th : Nat → Int32} {n i : Nat} {pr : Int32} (hT : TV n pr th) (hi : i < n) : ordN th pr n i < n ∧ bt (lefS th pr n i) (ordN th pr n i) = true := by
  have := ct_lef hT i (by omega)
  have hne : ∃ q, bt (lefS th pr n i) q = true := by
    have : 0 < ct (lefS th pr n i) := by omega
    obtain ⟨q, -, h⟩ := fb_ct_pos.mp this
    exact ⟨q, h⟩
  obtain ⟨h1, h2, -⟩ := next_in hT (lef_sub i) hne
  exact ⟨h1, h2⟩
theorem lef_gone {th : Nat → Int32} {n j : Nat} {pr : Int32} (hT : TV n pr th) : ∀ i, bt (lefS th pr n i) j = false → bt (allI n) j = true → ∃ x, x < i ∧ ordN th pr n x = j
  | 0, h, h2 => by rw [lefS, h2] at h; cases h
  | i + 1, h, h2 => by
    rw [lef_bt hT] at h
    cases hz : bt (lefS th pr n i) j with
    | false =>
      obtain ⟨x, a, b⟩ := lef_gone hT i hz h2
      exact ⟨x, by omega, b⟩
    | true =>
      rw [hz] at h
      simp at h
      exact ⟨i, Nat.lt_succ_self i, h.symm⟩
/-- every plant falls at one of the n turns -/
theorem ord_onto {th : Nat → Int32} {n j : Nat} {pr : Int32} (hT : TV n pr th) (hj : j < n) : ∃ x, x < n ∧ ordN th pr n x = j := by
  refine lef_gone hT n ?_ (by rw [bt_all hT.1]; simpa using hj)
  have h := ct_lef hT n (Nat.le_refl _)
  have h0 : ct (lefS th pr n n) = 0 := by omega
  exact fb_ct_zero.mp h0 j (by have := hT.1; omega)
/-! colors -/
def lcG (T : Int32) : Nat → Nat → Nat
  | 0, _ => 0
  | f + 1, c => if bt T c = true then lcG T f (c + 1) else c
def lcN (T : Int32) : Nat := lcG T 16 0
def tkI (g : Nat → Nat) (S : Int32) : Nat → Int32
  | 0 => 0
  | i + 1 => if bt S i = true then tkI g S i ||| bitI (nI (g i)) else tkI g S i
/-- the colors, and who has one, when the last m to fall have theirs -/
def colS (th : Nat → Int32) (pr : Int32) (n : Nat) : Nat → (Nat → Nat) × Int32
  | 0 => (fun _ => 0, 0)
  | m + 1 => (updN (colS th pr n m).1 (ordN th pr n (n - 1 - m)) (lcN (tkI (colS th pr n m).1 (th (ordN th pr n (n - 1 - m)) &&& (colS th pr n m).2) n)), (colS th pr n m).2 ||| bitI (nI (ordN th pr n (n - 1 - m))))
def colN (th : Nat → Int32) (pr : Int32) (n p : Nat) : Nat := (colS th pr n n).1 p
def colM (th : Nat → Int32) (pr : Int32) (n : Nat) : Nat → Nat
  | 0 => 0
  | i + 1 => if colM th pr n i < colN th pr n i + 1 then colN th pr n i + 1 else colM th pr n i
theorem lcG_le (T : Int32) : ∀ f c, lcG T f c ≤ c + f - 1 ∨ lcG T f c = 0
  | 0, _ => Or.inr rfl
  | f + 1, c => by
    rw [lcG]
    split
    · rcases lcG_le T f (c + 1) with h | h
      · left; omega
      · right; exact h
    · left; omega
theorem lcN_le (T : Int32) : lcN T ≤ 15 := by
  rcases lcG_le T 16 0 with h | h <;> (unfold lcN; omega)
theorem colS_le {th : Nat → Int32} {n : Nat} {pr : Int32} : ∀ m p, (colS th pr n m).1 p ≤ 15
  | 0, _ => by show 0 ≤ 15; decide
  | m + 1, p => by
    show updN _ _ _ p ≤ 15
    unfold updN
    split
    · exact lcN_le _
    · exact colS_le m p
theorem col_has {th : Nat → Int32} {n j : Nat} {pr : Int32} (hT : TV n pr th) : ∀ m, m ≤ n → (bt (colS th pr n m).2 j = true ↔ ∃ x, n - m ≤ x ∧ x < n ∧ ordN th pr n x = j)
  | 0, _ => by
    constructor
    · intro h; rw [show (colS th pr n 0).2 = 0 from rfl, b_0] at h; cases h
    · rintro ⟨x, h1, h2, -⟩; omega
  | m + 1, hm => by
    have ih := col_has (j := j) hT m (by omega)
    rw [show (colS th pr n (m + 1)).2 = (colS th pr n m).2 ||| bitI (nI (ordN th pr n (n - 1 - m))) from rfl, b_or, bitI, b_bit (by have := next_lt (L := lefS th pr n (n - 1 - m)) hT; unfold ordN; omega), Bool.or_eq_true, ih, decide_eq_true_eq]
    constructor
    · rintro (⟨x, h1, h2, h3⟩ | h)
      · exact ⟨x, by omega, h2, h3⟩
      · exact ⟨n - 1 - m, by omega, by omega, h.symm⟩
    · rintro ⟨x, h1, h2, h3⟩
      by_cases e : x = n - 1 - m
      · subst e; exact Or.inr h3.symm
      · exact Or.inl ⟨x, by omega, h2, h3⟩
theorem col_all {th : Nat → Int32} {n j : Nat} {pr : Int32} (hT : TV n pr th) (hj : j < n) : bt (colS th pr n n).2 j = true := by
  obtain ⟨x, h1, h2⟩ := ord_onto hT hj
  exact (col_has hT n (Nat.le_refl _)).mpr ⟨x, by omega, h1, h2⟩
theorem col_sm {th : Nat → Int32} {n : Nat} {pr : Int32} (hT : TV n pr th) {m : Nat} (hm : m ≤ n) : sub (colS th pr n m).2 (allI n) := fun j h => by
  obtain ⟨x, -, h2, h3⟩ := (col_has hT m hm).mp h
  rw [bt_all hT.1, ← h3]
  simpa using (ord_in hT h2).1
