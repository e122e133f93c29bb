theorem bc_nI {k : Nat} (hk : k < 65536) : nI (sw k) = (fun i : Int32 => ((fun i : Int32 => i + (i.toUInt32 >>> ((16 : Int32).toUInt32 &&& Int32.toUInt32 31)).toInt32) ((fun i : Int32 => i + (i.toUInt32 >>> ((8 : Int32).toUInt32 &&& Int32.toUInt32 31)).toInt32) ((fun i : Int32 => (i + (i.toUInt32 >>> ((4 : Int32).toUInt32 &&& Int32.toUInt32 31)).toInt32) &&& 252645135) ((fun i : Int32 => (i &&& 858993459) + ((i.toUInt32 >>> ((2 : Int32).toUInt32 &&& Int32.toUInt32 31)).toInt32 &&& 858993459)) ((fun i : Int32 => i - ((i.toUInt32 >>> ((1 : Int32).toUInt32 &&& Int32.toUInt32 31)).toInt32 &&& 1431655765)) i))))) &&& 63) (nI k) := by
  obtain ⟨-, -, f3, f4, f5⟩ := sw_f hk
  have g1 : sw1 k < 65536 := by unfold sw1; omega
  have g2 : sw2 (sw1 k) < 65536 := by omega
  have g3 : sw3 (sw2 (sw1 k)) < 65536 := by
    have : sw3 (sw2 (sw1 k)) ≤ sw2 (sw1 k) + (sw2 (sw1 k) >>> 4) := Nat.and_le_left
    omega
  have g4 : sw4 (sw3 (sw2 (sw1 k))) < 65536 := by omega
  have e1 : nI k - (((nI k).toUInt32 >>> ((1 : Int32).toUInt32 &&& Int32.toUInt32 31)).toInt32 &&& 1431655765) = nI (sw1 k) := by
    rw [show ((nI k).toUInt32 >>> ((1 : Int32).toUInt32 &&& Int32.toUInt32 31)).toInt32 = nI (k >>> 1) from nx_ush hk (j := 1) (by omega), show (1431655765 : Int32) = nI 1431655765 from rfl, nx_and, pk_sub f3]
    rfl
  have e2 : (nI (sw1 k) &&& 858993459) + (((nI (sw1 k)).toUInt32 >>> ((2 : Int32).toUInt32 &&& Int32.toUInt32 31)).toInt32 &&& 858993459) = nI (sw2 (sw1 k)) := by
    rw [show ((nI (sw1 k)).toUInt32 >>> ((2 : Int32).toUInt32 &&& Int32.toUInt32 31)).toInt32 = nI (sw1 k >>> 2) from nx_ush g1 (j := 2) (by omega), show (858993459 : Int32) = nI 858993459 from rfl, nx_and, nx_and, nI_add]
    rfl
  have e3 : (nI (sw2 (sw1 k)) + ((nI (sw2 (sw1 k))).toUInt32 >>> ((4 : Int32).toUInt32 &&& Int32.toUInt32 31)).toInt32) &&& 252645135 = nI (sw3 (sw2 (sw1 k))) := by
    rw [show ((nI (sw2 (sw1 k))).toUInt32 >>> ((4 : Int32).toUInt32 &&& Int32.toUInt32 31)).toInt32 = nI (sw2 (sw1 k) >>> 4) from nx_ush g2 (j := 4) (by omega), nI_add, show (252645135 : Int32) = nI 252645135 from rfl, nx_and]
    rfl
  have e4 : nI (sw3 (sw2 (sw1 k))) + ((nI (sw3 (sw2 (sw1 k)))).toUInt32 >>> ((8 : Int32).toUInt32 &&& Int32.toUInt32 31)).toInt32 = nI (sw4 (sw3 (sw2 (sw1 k)))) := by
    rw [show ((nI (sw3 (sw2 (sw1 k)))).toUInt32 >>> ((8 : Int32).toUInt32 &&& Int32.toUInt32 31)).toInt32 = nI (sw3 (sw2 (sw1 k)) >>> 8) from nx_ush g3 (j := 8) (by omega), nI_add]
    rfl
  have e5 : nI (sw4 (sw3 (sw2 (sw1 k)))) + ((nI (sw4 (sw3 (sw2 (sw1 k))))).toUInt32 >>> ((16 : Int32).toUInt32 &&& Int32.toUInt32 31)).toInt32 = nI (sw5 (sw4 (sw3 (sw2 (sw1 k))))) := by
    rw [show ((nI (sw4 (sw3 (sw2 (sw1 k))))).toUInt32 >>> ((16 : Int32).toUInt32 &&& Int32.toUInt32 31)).toInt32 = nI (sw4 (sw3 (sw2 (sw1 k))) >>> 16) from nx_ush g4 (j := 16) (by omega), nI_add]
    rfl
  simp only [e1, e2, e3, e4, e5]
  rw [show (63 : Int32) = nI 63 from rfl, nx_and]
  rfl
/-- a thicket that is as it should be -/
def TV (n : Nat) (pr : Int32) (th : Nat → Int32) : Prop := n ≤ 16 ∧ (∀ i, bt pr i = true → i < n) ∧ (∀ i j, i < 16 → bt (th i) j = true → i < n ∧ j < n ∧ i ≠ j) ∧ ∀ i j, i < 16 → j < 16 → bt (th i) j = bt (th j) i
theorem TV.sp {n : Nat} {pr : Int32} {th : Nat → Int32} (h : TV n pr th) : sm pr := fun i hi => by
  cases hb : bt pr i with
  | false => rfl
  | true => have := h.2.1 i hb; have := h.1; omega
theorem TV.st {n : Nat} {pr : Int32} {th : Nat → Int32} (h : TV n pr th) {i : Nat} (hi : i < 16) : sm (th i) := fun j hj => by
  cases hb : bt (th i) j with
  | false => rfl
  | true => have := (h.2.2.1 i j hi hb).2.1; have := h.1; omega
/-- the set of the first n plants -/
def allI (n : Nat) : Int32 := ((1 : Int32) <<< (nI n &&& 31)) - 1
theorem bt_all {n i : Nat} (hn : n ≤ 16) : bt (allI n) i = decide (i < n) := b_all hn
theorem sm_all {n : Nat} (hn : n ≤ 16) : sm (allI n) := fun i h => by rw [bt_all hn, decide_eq_false (by omega)]
/-- the set of the p's under n that have a property -/
def mkN (f : Nat → Bool) : Nat → Int32
  | 0 => 0
  | n + 1 => if f n = true then mkN f n ||| ((1 : Int32) <<< (nI n &&& 31)) else mkN f n
theorem bt_mk (f : Nat → Bool) : ∀ n, n ≤ 32 → ∀ i, bt (mkN f n) i = (decide (i < n) && f i)
  | 0, _, i => by simp [mkN, b_0]
  | n + 1, h, i => by
    have ih := bt_mk f n (by omega) i
    rw [mkN]
    split
    · next hf =>
      rw [b_or, ih, b_bit (by omega)]
      by_cases e : i = n
      · subst e; simp [hf]
      · by_cases q : i < n
        · simp [q, e, Nat.lt_succ_of_lt q]
        · simp [q, e, show ¬ i < n + 1 by omega]
    · next hf =>
      rw [ih]
      by_cases e : i = n
      · subst e; simp only [Bool.not_eq_true] at hf; simp [hf]
      · by_cases q : i < n
        · simp [q, Nat.lt_succ_of_lt q]
        · simp [q, show ¬ i < n + 1 by omega]
theorem sm_mk (f : Nat → Bool) {n : Nat} (h : n ≤ 16) : sm (mkN f n) := fun i hi => by rw [bt_mk f n (by omega), decide_eq_false (by omega)]; rfl
theorem ct_cong {x y : Int32} (h : ∀ i, i < 16 → bt x i = bt y i) : ct x = ct y := fb_ct_cong h
theorem ct_sub {x y : Int32} (h : ∀ i, i < 16 → bt x i = true → bt y i = true) : ct x ≤ ct y := fb_ct_sub h
/-- the greatest k up to n with a property, or 0 -/
def topK (f : Nat → Bool) : Nat → Nat
  | 0 => 0
  | k + 1 => if f (k + 1) = true then k + 1 else topK f k
theorem topK_le (f : Nat → Bool) : ∀ n, topK f n ≤ n
  | 0 => Nat.le_refl _
  | n + 1 => by
    rw [topK]
    split
    · exact Nat.le_refl _
    · exact Nat.le_succ_of_le (topK_le f n)
theorem topK_yes (f : Nat → Bool) : ∀ n, 0 < topK f n → f (topK f n) = true
  | 0, h => absurd h (Nat.lt_irrefl 0)
  | n + 1, h => by
    rw [topK] at h ⊢
    split
    · next q => exact q
    · next q => rw [if_neg q] at h; exact topK_yes f n h
theorem topK_no (f : Nat → Bool) : ∀ n k, topK f n < k → k ≤ n → f k = false
  | 0, k, h, h2 => by omega
  | n + 1, k, h, h2 => by
    rw [topK] at h
    split at h
    · omega
    · next q =>
      rcases Nat.lt_or_ge n k with r | r
      · have : k = n + 1 := by omega
        subst this
        simpa using q
      · exact topK_no f n k h r
theorem topK_eq {f : Nat → Bool} {n m : Nat} (h1 : m ≤ n) (h2 : 0 < m → f m = true) (h3 : ∀ k, m < k → k ≤ n → f k = false) : topK f n = m := by
  rcases Nat.lt_trichotomy (topK f n) m with h | h | h
  · have := topK_no f n m h h1
    rw [h2 (by omega)] at this
    cases this
  · exact h
  · have := topK_yes f n (by omega)
    rw [h3 _ h (topK_le f n)] at this
    cases this
theorem topK_cong {f g : Nat → Bool} : ∀ {n : Nat}, (∀ k, 0 < k → k ≤ n → f k = g k) → topK f n = topK g n
  | 0, _ => rfl
  | n + 1, h => by
    rw [topK, topK, h (n + 1) (by omega) (Nat.le_refl _), topK_cong (fun k a b => h k a (by omega))]
