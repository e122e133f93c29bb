/-! ===== the leaves again, asked with numbers that are known ===== -/
theorem inb_nI {x : Int32} {j : Nat} (hj : j < 32) : inb x (nI j) = bt x j := by
  have := b_ask (x := x) hj
  unfold inb
  cases hb : bt x j with
  | false => simp [this.mpr hb]
  | true =>
    have h2 : ¬ ((x.toUInt32 >>> ((nI j).toUInt32 &&& Int32.toUInt32 31)).toInt32 &&& 1) = 0 := fun q => by rw [this.mp q] at hb; cases hb
    simp [h2]
theorem bc_ct {x : Int32} (hx : sm x) : bcI x = nI (ct x) := by
  obtain ⟨k, hk, rfl⟩ := sm_nat hx
  rw [show ct (nI k) = fb_ct k.testBit 16 from fb_ct_cong (fun i hi => by rw [bt_nI]; simp [show i < 32 by omega]), ← sw_ct 16 k (Nat.le_refl _) hk, bc_nI hk]
  rfl
theorem hasB_nI {c : Int32} {n j : Nat} (hc : c = nI n) (hn : n ≤ 16) (hj : j < 2 ^ 31) : hasB c (nI j) = decide (j < n) := by
  subst hc
  unfold hasB
  rw [decide_eq_false (nI_pos hj)]
  simp only [Bool.not_false, Bool.true_and]
  by_cases h : j < n
  · rw [decide_eq_true h, decide_eq_true (nI_lt h (by omega))]
  · rw [decide_eq_false h, decide_eq_false (nI_nlt (by omega) hj)]
theorem bndB_nI {c pr : Int32} {th : Nat → Int32} {n i j : Nat} (hc : c = nI n) (hT : TV n pr th) (hi : i < 16) (hj : j < 16) : bndB c th (nI i) (nI j) = bt (th i) j := by
  unfold bndB
  rw [hasB_nI hc hT.1 (by omega), hasB_nI hc hT.1 (by omega), rowAt_nI (by decide) hi, inb_nI (by omega)]
  cases hb : bt (th i) j with
  | false => simp
  | true =>
    obtain ⟨h1, h2, -⟩ := hT.2.2.1 i j hi hb
    simp [h1, h2]
theorem propB_nI {c pr : Int32} {th : Nat → Int32} {n i : Nat} (hc : c = nI n) (hT : TV n pr th) (hi : i < 16) : (hasB c (nI i) && inb pr (nI i)) = bt pr i := by
  rw [hasB_nI hc hT.1 (by omega), inb_nI (by omega)]
  cases hb : bt pr i with
  | false => simp
  | true => simp [hT.2.1 i hb]
theorem cnt_le {c : Int32} {n i : Nat} (hc : c = nI n) (h : n ≤ i) (hi : i < 2 ^ 31) : c ≤ nI i := by rw [hc]; exact nI_le h hi
theorem cnt_nle {c : Int32} {n i : Nat} (hc : c = nI n) (h : i < n) (hn : n < 2 ^ 31) : ¬ c ≤ nI i := by rw [hc]; exact nI_ge h hn
theorem full_nI {n : Nat} (hn : n ≤ 16) : (!decide (nI n < nI 16)) = decide (n = 16) := by
  rcases Nat.lt_or_ge n 16 with q | q
  · rw [decide_eq_true (nI_lt q (by omega)), decide_eq_false (by omega)]; rfl
  · rw [decide_eq_false (nI_nlt q (by omega)), decide_eq_true (by omega)]; rfl
section NUM
variable {l : Launch} {D : va_G} {ad : Nat → Nat} {cI cL : ClassId}
theorem CtV.mono {y : MethodName} {ws : List Cond} {rm : Room} {av : List Value} {μ : Mem} {f g : Mem → Prop} (h : CtV l D ad cI cL y ws rm av μ f) (hfg : ∀ μ', f μ' → g μ') : CtV l D ad cI cL y ws rm av μ g := by
  intro p e ha hc hk s m args below h1 h2 h3 h4
  obtain ⟨t, o, a1, a2, a3, ⟨⟨u, b1, b2, b3⟩, b4⟩, b5⟩ := h p e ha hc hk s m args below h1 h2 h3 h4
  exact ⟨t, o, a1, a2, a3, ⟨⟨u, b1, hfg _ b2, b3⟩, b4⟩, b5⟩
theorem c_X7_inN (hfl : l.flags = flags0) (hok : adOK ad) (μ : Mem) (x : Int32) (j : Nat) (hj : j < 32) : CtI l D ad cI cL yX7_in wsX7_in (RM 0 0) [.int x, .int (nI j)] μ (fun (r : Int32) (μ' : Mem) => r = b2i (bt x j) ∧ μ' = μ) :=
  (c_X7_in hfl hok _ _ _).mono (fun r μ1 h => by rw [inb_nI hj] at h; exact h)
theorem c_X7_bitsN (hfl : l.flags = flags0) (hok : adOK ad) (μ : Mem) (x : Int32) (hx : sm x) : CtI l D ad cI cL yX7_bits wsX7_bits (RM 1 20) [.int x] μ (fun (r : Int32) (μ' : Mem) => r = nI (ct x) ∧ μ' = μ) :=
  (c_X7_bits hfl hok _ _).mono (fun r μ1 h => by rw [bc_ct hx] at h; exact h)
theorem c_X5_hasN (hfl : l.flags = flags0) (hok : adOK ad) (μ : Mem) (j : Nat) {n : Nat} (hc : μ 1 0 = nI n) (hn : n ≤ 16) (hj : j < 2 ^ 31) : CtI l D ad cI cL yX5_has wsX5_has (RM 0 0) [.ref (ad 1), .int (nI j)] μ (fun (r : Int32) (μ' : Mem) => r = b2i (decide (j < n)) ∧ μ' = μ) :=
  (c_X5_has hfl hok _ _).mono (fun r μ1 h => by rw [hasB_nI hc hn hj] at h; exact h)
theorem c_X5_aroundN (hfl : l.flags = flags0) (hok : adOK ad) (μ : Mem) (j : Nat) (hj : j < 16) : CtI l D ad cI cL yX5_around wsX5_around (RM 1 21) [.ref (ad 1), .int (nI j)] μ (fun (r : Int32) (μ' : Mem) => r = μ 3 j ∧ μ' = μ) :=
  (c_X5_around hfl hok _ _).mono (fun r μ1 h => by rw [rowAt_nI (by decide) hj] at h; exact h)
theorem c_X5_aroundBothN (hfl : l.flags = flags0) (hok : adOK ad) (μ : Mem) (i j : Nat) (hi : i < 16) (hj : j < 16) : CtI l D ad cI cL yX5_aroundBoth wsX5_aroundBoth (RM 1 21) [.ref (ad 1), .int (nI i), .int (nI j)] μ (fun (r : Int32) (μ' : Mem) => r = μ 3 i &&& μ 3 j ∧ μ' = μ) :=
  (c_X5_aroundBoth hfl hok _ _ _).mono (fun r μ1 h => by rw [rowAt_nI (by decide) hi, rowAt_nI (by decide) hj] at h; exact h)
theorem c_X5_heldN (hfl : l.flags = flags0) (hok : adOK ad) (μ : Mem) (j : Nat) (hj : j < 16) (hs : sm (μ 3 j)) : CtI l D ad cI cL yX5_held wsX5_held (RM 2 40) [.ref (ad 1), .int (nI j)] μ (fun (r : Int32) (μ' : Mem) => r = nI (ct (μ 3 j)) ∧ μ' = μ) :=
  (c_X5_held hfl hok _ _).mono (fun r μ1 h => by rw [rowAt_nI (by decide) hj, bc_ct hs] at h; exact h)
theorem c_X5_hasPropN (hfl : l.flags = flags0) (hok : adOK ad) (μ : Mem) (j : Nat) {n : Nat} (hc : μ 1 0 = nI n) (hT : TV n (μ 1 1) (μ 3)) (hj : j < 16) : CtI l D ad cI cL yX5_hasProp wsX5_hasProp (RM 1 21) [.ref (ad 1), .int (nI j)] μ (fun (r : Int32) (μ' : Mem) => r = b2i (bt (μ 1 1) j) ∧ μ' = μ) :=
  (c_X5_hasProp hfl hok _ _).mono (fun r μ1 h => by rw [propB_nI hc hT hj] at h; exact h)
theorem c_X5_isBoundN (hfl : l.flags = flags0) (hok : adOK ad) (μ : Mem) (i j : Nat) {n : Nat} (hc : μ 1 0 = nI n) (hT : TV n (μ 1 1) (μ 3)) (hi : i < 16) (hj : j < 16) : CtI l D ad cI cL yX5_isBound wsX5_isBound (RM 1 21) [.ref (ad 1), .int (nI i), .int (nI j)] μ (fun (r : Int32) (μ' : Mem) => r = b2i (bt (μ 3 i) j) ∧ μ' = μ) :=
  (c_X5_isBound hfl hok _ _ _).mono (fun r μ1 h => by rw [bndB_nI hc hT hi hj] at h; exact h)
theorem c_X5_plantsN (hfl : l.flags = flags0) (hok : adOK ad) (μ : Mem) {n : Nat} (hc : μ 1 0 = nI n) : CtI l D ad cI cL yX5_plants wsX5_plants (RM 1 20) [.ref (ad 1)] μ (fun (r : Int32) (μ' : Mem) => r = allI n ∧ μ' = μ) :=
  (c_X5_plants hfl hok _).mono (fun r μ1 h => by rw [hc] at h; exact h)
theorem c_X5_isFullN (hfl : l.flags = flags0) (hok : adOK ad) (μ : Mem) {n : Nat} (hc : μ 1 0 = nI n) (hn : n ≤ 16) : CtI l D ad cI cL yX5_isFull wsX5_isFull (RM 0 0) [.ref (ad 1)] μ (fun (r : Int32) (μ' : Mem) => r = b2i (decide (n = 16)) ∧ μ' = μ) :=
  (c_X5_isFull hfl hok _).mono (fun r μ1 h => ⟨by rw [h.1, hc, nI16, full_nI hn], h.2⟩)
theorem c_X3_atN (hfl : l.flags = flags0) (hok : adOK ad) (μ : Mem) (k n : Nat) (hrow : isRow k n) (i : Nat) (hi : i < n) : CtI l D ad cI cL yX3_at wsX3_at (RM 0 0) [.ref (ad k), .int (nI i)] μ (fun (r : Int32) (μ' : Mem) => r = μ (k + 1) i ∧ μ' = μ) :=
  (c_X3_at hfl hok _ _ _ hrow _).mono (fun r μ1 h => by rw [rowAt_nI hrow.2.2.2 hi] at h; exact h)
theorem c_X3_putN (hfl : l.flags = flags0) (hok : adOK ad) (μ : Mem) (k n : Nat) (hrow : isRow k n) (i : Nat) (x : Int32) (hi : i < n) : CtV l D ad cI cL yX3_put wsX3_put (RM 0 0) [.ref (ad k), .int (nI i), .int x] μ (fun (μ' : Mem) => μ' = mset μ (k + 1) (upd (μ (k + 1)) i x)) :=
  (c_X3_put hfl hok _ _ _ hrow _ _).mono (fun μ1 h => by rw [rowPut_nI hrow.2.2.2 hi] at h; exact h)
end NUM
/-- b, and the bits of the p's under n with f -/
def accN (b : Int32) (f : Nat → Bool) : Nat → Int32
  | 0 => b
  | n + 1 => if f n = true then accN b f n ||| bitI (nI n) else accN b f n
theorem bt_acc (b : Int32) (f : Nat → Bool) : ∀ n, n ≤ 32 → ∀ i, bt (accN b f n) i = (bt b i || (decide (i < n) && f i))
  | 0, _, i => by simp [accN]
  | n + 1, h, i => by
    have ih := bt_acc b f n (by omega) i
    rw [accN]
    split
    · next hf =>
      rw [b_or, ih, bitI, b_bit (by omega)]
      by_cases e : i = n
      · subst e; simp [hf]
      · by_cases q : i < n
        · simp [q, e, Nat.lt_succ_of_lt q]
        · simp [q, e, show ¬ i < n + 1 by omega]
    · next hf =>
      rw [ih]
      by_cases e : i = n
      · subst e; simp only [Bool.not_eq_true] at hf; simp [hf]
      · by_cases q : i < n
        · simp [q, Nat.lt_succ_of_lt q]
        · simp [q, show ¬ i < n + 1 by omega]
theorem sm_acc {b : Int32} (f : Nat → Bool) {n : Nat} (hb : sm b) (h : n ≤ 16) : sm (accN b f n) := fun i hi => by rw [bt_acc b f n (by omega), hb i hi, decide_eq_false (by omega)]; rfl
theorem accN_t {b : Int32} {f : Nat → Bool} {n : Nat} (h : f n = true) : accN b f (n + 1) = accN b f n ||| bitI (nI n) := by rw [accN, if_pos h]
theorem accN_f {b : Int32} {f : Nat → Bool} {n : Nat} (h : f n = false) : accN b f (n + 1) = accN b f n := by rw [accN, if_neg (by rw [h]; decide)]
def itr {α : Type} (f : α → α) : Nat → α → α
  | 0, x => x
  | n + 1, x => f (itr f n x)
theorem itr_fix {α : Type} {f : α → α} {x : α} {i : Nat} (h : f (itr f i x) = itr f i x) : ∀ j, i ≤ j → itr f j x = itr f i x := by
  intro j hj
  induction j with
  | zero => rw [show i = 0 by omega]
  | succ j ih =>
    rcases Nat.lt_or_ge i (j + 1) with q | q
    · rw [itr, ih (by omega), h]
    · rw [show i = j + 1 by omega]
theorem bneg {b : Bool} (h : ¬ b2i b = 0) : b = true := by cases b <;> first | rfl | exact absurd rfl h
theorem bpos {b : Bool} (h : b2i b = 0) : b = false := b2i_0.mp h
