/-! ===== a thicket's state: how many plants, the props, the thorns; the changes of a text ===== -/
abbrev St : Type := Nat × Int32 × (Nat → Int32)
def TVs (σ : St) : Prop := TV σ.1 σ.2.1 σ.2.2
/-- the class holds the state σ -/
def CSm (μ : Mem) (σ : St) : Prop := μ 1 0 = nI σ.1 ∧ μ 1 1 = σ.2.1 ∧ μ 3 = σ.2.2
def growS (σ : St) : Bool × St := if σ.1 < 16 then (true, (σ.1 + 1, σ.2.1, σ.2.2)) else (false, σ)
def turnS (j : Nat) (σ : St) : Bool × St := if j < σ.1 then (true, (σ.1, σ.2.1 ^^^ bitI (nI j), σ.2.2)) else (false, σ)
def tieE (th : Nat → Int32) (i j : Nat) : Nat → Int32 := upd (upd th i (th i ||| bitI (nI j))) j (upd th i (th i ||| bitI (nI j)) j ||| bitI (nI i))
def untE (th : Nat → Int32) (i j : Nat) : Nat → Int32 := upd (upd th i (th i &&& (bitI (nI j) ^^^ (-1)))) j (upd th i (th i &&& (bitI (nI j) ^^^ (-1))) j &&& (bitI (nI i) ^^^ (-1)))
def tieS (i j : Nat) (σ : St) : Bool × St := if i < σ.1 ∧ j < σ.1 ∧ i ≠ j ∧ bt (σ.2.2 i) j = false then (true, (σ.1, σ.2.1, tieE σ.2.2 i j)) else (false, σ)
def untS (i j : Nat) (σ : St) : Bool × St := if bt (σ.2.2 i) j = true then (true, (σ.1, σ.2.1, untE σ.2.2 i j)) else (false, σ)
/-- the number of the plant that a name names -/
def nmN (c : Nat → Int32) (i : Nat) : Nat := (c i - 97).toNatClampNeg
def chgS (c : Nat → Int32) (i : Nat) (σ : St) : Bool × St :=
  if c i = 43 then growS σ else if c i = 33 then turnS (nmN c (i + 1)) σ else if c (i + 1) = 45 then tieS (nmN c i) (nmN c (i + 2)) σ else untS (nmN c i) (nmN c (i + 2)) σ
def clen (c : Nat → Int32) (i : Nat) : Nat := if c i = 43 then 1 else if c i = 33 then 2 else 3
def runC (c : Nat → Int32) (w : Nat) : Nat → Nat → Nat × St → Nat × St
  | 0, _, x => x
  | f + 1, i, x => if i < w then runC c w f (i + clen c i + 1) (x.1 + (if (chgS c i x.2).1 = true then 1 else 0), (chgS c i x.2).2) else x
/-! the changes keep a thicket as it should be -/
theorem TV_grow {σ : St} (h : TVs σ) : TVs (growS σ).2 := by
  unfold growS
  split
  · next q => exact ⟨q, fun i hi => Nat.lt_succ_of_lt (h.2.1 i hi), fun i j hi hb => ⟨Nat.lt_succ_of_lt (h.2.2.1 i j hi hb).1, Nat.lt_succ_of_lt (h.2.2.1 i j hi hb).2.1, (h.2.2.1 i j hi hb).2.2⟩, h.2.2.2⟩
  · exact h
theorem TV_turn {σ : St} {j : Nat} (h : TVs σ) : TVs (turnS j σ).2 := by
  unfold turnS
  split
  · next q =>
    have hn := h.1
    refine ⟨h.1, fun i hi => ?_, h.2.2⟩
    have hi : bt (σ.2.1 ^^^ bitI (nI j)) i = true := hi
    rw [b_xor, bitI, b_bit (by omega)] at hi
    cases hb : bt σ.2.1 i with
    | true => exact h.2.1 i hb
    | false =>
      rw [hb] at hi
      simp at hi
      rw [hi]; exact q
  · exact h
theorem bt_tie {th : Nat → Int32} {i j a b : Nat} (hi : i < 16) (hj : j < 16) (hne : i ≠ j) : bt (tieE th i j a) b = (bt (th a) b || (decide (a = i ∧ b = j) || decide (a = j ∧ b = i))) := by
  unfold tieE upd
  by_cases e : a = j
  · subst e
    rw [if_pos rfl, if_neg (Ne.symm hne), b_or, bitI, b_bit (by omega)]
    by_cases q : b = i <;> simp [q, hne, Ne.symm hne]
  · rw [if_neg e]
    by_cases e2 : a = i
    · subst e2
      rw [if_pos rfl, b_or, bitI, b_bit (by omega)]
      by_cases q : b = j <;> simp [q, e]
    · rw [if_neg e2]; simp [e, e2]
theorem TV_tie {σ : St} {i j : Nat} (h : TVs σ) : TVs (tieS i j σ).2 := by
  unfold tieS
  split
  · next q =>
    obtain ⟨q1, q2, q3, q4⟩ := q
    have hn := h.1
    refine ⟨h.1, h.2.1, fun a b ha hb => ?_, fun a b ha hb => ?_⟩
    · have hb : bt (tieE σ.2.2 i j a) b = true := hb
      rw [bt_tie (by omega) (by omega) q3] at hb
      simp only [Bool.or_eq_true, decide_eq_true_eq] at hb
      rcases hb with w | w | w
      · exact h.2.2.1 a b ha w
      · rw [w.1, w.2]; exact ⟨q1, q2, q3⟩
      · rw [w.1, w.2]; exact ⟨q2, q1, Ne.symm q3⟩
    · show bt (tieE σ.2.2 i j a) b = bt (tieE σ.2.2 i j b) a
      rw [bt_tie (by omega) (by omega) q3, bt_tie (by omega) (by omega) q3, h.2.2.2 a b ha hb]
      congr 1
      by_cases w1 : a = i <;> by_cases w2 : b = j <;> by_cases w3 : a = j <;> by_cases w4 : b = i <;> simp [w1, w2, w3, w4]
  · exact h
theorem untE_drop {th : Nat → Int32} {i j : Nat} (hne : i ≠ j) : untE th i j = dropE th i j := by
  unfold untE dropE
  rw [pk_un (Ne.symm hne)]
theorem TV_unt {σ : St} {i j : Nat} (hi : i < 16) (h : TVs σ) : TVs (untS i j σ).2 := by
  unfold untS
  split
  · next q =>
    have hT0 := TV_0 h
    obtain ⟨q1, q2, q3, q4⟩ := edge_lt h hi q
    have hd := (trI_drop (th := σ.2.2) (k := 100) (trI_0 h) hi q4 q (by have := ct_le (σ.2.2 i &&& σ.2.2 j); omega)).1
    refine ⟨h.1, h.2.1, ?_, ?_⟩
    · show ∀ a b, a < 16 → bt (untE σ.2.2 i j a) b = true → _
      rw [untE_drop q3]; exact hd.2.2.1
    · show ∀ a b, a < 16 → b < 16 → bt (untE σ.2.2 i j a) b = bt (untE σ.2.2 i j b) a
      rw [untE_drop q3]; exact hd.2.2.2
  · exact h
/-! the class's own changes are these -/
def msT (μ : Mem) (f g : Nat → Int32) : Mem := mset (mset μ 1 f) 3 g
theorem CS_grow {μ : Mem} {σ : St} (hS : CSm μ σ) (hT : TVs σ) : decide (μ 1 0 < 16) = (growS σ).1 ∧ ∃ f g, (if μ 1 0 < 16 then mset μ 1 (upd (μ 1) 0 (μ 1 0 + 1)) else μ) = msT μ f g ∧ CSm (msT μ f g) (growS σ).2 := by
  have hn := hT.1
  have e : (μ 1 0 < 16) ↔ σ.1 < 16 := by rw [hS.1, nI16, nI_ltI (by omega) (by decide)]
  unfold growS
  by_cases q : σ.1 < 16
  · rw [if_pos (e.mpr q), if_pos q]
    refine ⟨decide_eq_true (e.mpr q), upd (μ 1) 0 (μ 1 0 + 1), μ 3, (mset_skip μ _ (by decide)).symm, ?_, hS.2.1, hS.2.2⟩
    show μ 1 0 + 1 = nI (σ.1 + 1)
    rw [hS.1, nI_1]
  · rw [if_neg (fun w => q (e.mp w)), if_neg q]
    exact ⟨decide_eq_false (fun w => q (e.mp w)), μ 1, μ 3, by unfold msT; rw [mset_id, mset_id], hS⟩
theorem CS_turn {μ : Mem} {σ : St} {j : Nat} (hS : CSm μ σ) (hT : TVs σ) (hj : j < 16) : hasB (μ 1 0) (nI j) = (turnS j σ).1 ∧ ∃ f g, (if hasB (μ 1 0) (nI j) = true then mset μ 1 (upd (μ 1) 1 (μ 1 1 ^^^ bitI (nI j))) else μ) = msT μ f g ∧ CSm (msT μ f g) (turnS j σ).2 := by
  have hn := hT.1
  rw [hasB_nI hS.1 hn (by omega)]
  unfold turnS
  by_cases q : j < σ.1
  · rw [if_pos (decide_eq_true q), if_pos q]
    refine ⟨decide_eq_true q, upd (μ 1) 1 (μ 1 1 ^^^ bitI (nI j)), μ 3, (mset_skip μ _ (by decide)).symm, hS.1, ?_, hS.2.2⟩
    show μ 1 1 ^^^ bitI (nI j) = σ.2.1 ^^^ bitI (nI j)
    rw [hS.2.1]
  · rw [if_neg (show ¬ decide (j < σ.1) = true by rw [decide_eq_false q]; decide), if_neg q]
    exact ⟨decide_eq_false q, μ 1, μ 3, by unfold msT; rw [mset_id, mset_id], hS⟩
theorem tie1_nI {th : Nat → Int32} {i j : Nat} (hi : i < 16) : tie1 th (nI i) (nI j) = upd th i (th i ||| bitI (nI j)) := by unfold tie1; rw [rowPut_nI (by decide) hi, rowAt_nI (by decide) hi]
theorem unt1_nI {th : Nat → Int32} {i j : Nat} (hi : i < 16) : unt1 th (nI i) (nI j) = upd th i (th i &&& (bitI (nI j) ^^^ (-1))) := by unfold unt1; rw [rowPut_nI (by decide) hi, rowAt_nI (by decide) hi]
theorem tieB_nI {μ : Mem} {σ : St} {i j : Nat} (hS : CSm μ σ) (hT : TVs σ) (hi : i < 16) (hj : j < 16) : tieB (μ 1 0) (μ 3) (nI i) (nI j) = (tieS i j σ).1 := by
  have hn := hT.1
  have hT' : TV σ.1 (μ 1 1) (μ 3) := by rw [hS.2.1, hS.2.2]; exact hT
  unfold tieB tieS
  rw [hasB_nI hS.1 hn (by omega), hasB_nI hS.1 hn (by omega), bndB_nI hS.1 hT' hi hj, hS.2.2]
  have e : (nI i = nI j) ↔ i = j := nI_eq (by omega) (by omega)
  by_cases q : i < σ.1 ∧ j < σ.1 ∧ i ≠ j ∧ bt (σ.2.2 i) j = false
  · rw [if_pos q]
    obtain ⟨q1, q2, q3, q4⟩ := q
    rw [decide_eq_true q1, decide_eq_true q2, decide_eq_false (fun w => q3 (e.mp w)), q4]; rfl
  · rw [if_neg q]
    cases hb : bt (σ.2.2 i) j with
    | true => simp
    | false =>
      by_cases q1 : i < σ.1
      · by_cases q2 : j < σ.1
        · have q3 : i = j := Classical.byContradiction fun w => q ⟨q1, q2, w, hb⟩
          simp [q3]
        · simp [q2]
      · simp [q1]
theorem CS_tie {μ : Mem} {σ : St} {i j : Nat} (hS : CSm μ σ) (hT : TVs σ) (hi : i < 16) (hj : j < 16) : ∃ f g, (if tieB (μ 1 0) (μ 3) (nI i) (nI j) = true then mset μ 3 (tie1 (tie1 (μ 3) (nI i) (nI j)) (nI j) (nI i)) else μ) = msT μ f g ∧ CSm (msT μ f g) (tieS i j σ).2 := by
  rw [tieB_nI hS hT hi hj]
  unfold tieS
  by_cases q : i < σ.1 ∧ j < σ.1 ∧ i ≠ j ∧ bt (σ.2.2 i) j = false
  · rw [if_pos q, if_pos rfl, tie1_nI hj, tie1_nI hi]
    refine ⟨μ 1, tieE (μ 3) i j, by unfold msT; rw [mset_id]; rfl, hS.1, hS.2.1, ?_⟩
    show tieE (μ 3) i j = tieE σ.2.2 i j
    rw [hS.2.2]
  · rw [if_neg q, if_neg (show ¬ ((false, σ) : Bool × St).1 = true from Bool.false_ne_true)]
    exact ⟨μ 1, μ 3, by unfold msT; rw [mset_id, mset_id], hS⟩
theorem CS_unt {μ : Mem} {σ : St} {i j : Nat} (hS : CSm μ σ) (hT : TVs σ) (hi : i < 16) (hj : j < 16) : bndB (μ 1 0) (μ 3) (nI i) (nI j) = (untS i j σ).1 ∧ ∃ f g, (if bndB (μ 1 0) (μ 3) (nI i) (nI j) = true then mset μ 3 (unt1 (unt1 (μ 3) (nI i) (nI j)) (nI j) (nI i)) else μ) = msT μ f g ∧ CSm (msT μ f g) (untS i j σ).2 := by
  have hT' : TV σ.1 (μ 1 1) (μ 3) := by rw [hS.2.1, hS.2.2]; exact hT
  rw [bndB_nI hS.1 hT' hi hj, hS.2.2]
  unfold untS
  cases hb : bt (σ.2.2 i) j with
  | true =>
    rw [if_pos rfl, if_pos rfl, unt1_nI hj, unt1_nI hi]
    exact ⟨rfl, μ 1, untE σ.2.2 i j, by unfold msT; rw [mset_id]; rfl, hS.1, hS.2.1, rfl⟩
  | false =>
    rw [if_neg (by decide), if_neg (by decide)]
    exact ⟨rfl, μ 1, μ 3, by unfold msT; rw [mset_id, mset_id], hS⟩
theorem msT_msT (μ : Mem) (f g f2 g2 : Nat → Int32) : msT (msT μ f g) f2 g2 = msT μ f2 g2 := by
  unfold msT
  rw [mset_comm _ g f2 (by decide), mset_mset, mset_mset]
