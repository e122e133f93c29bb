/-! ===== k-trusses ===== -/
def trC (k : Nat) (e : Nat → Int32) : Prop := ∀ i j, i < 16 → bt (e i) j = true → k ≤ ct (e i &&& e j)
def subE (e f : Nat → Int32) : Prop := ∀ i, i < 16 → sub (e i) (f i)
/-- on the way to the k-truss: nothing of it is gone -/
def trI (th : Nat → Int32) (n k : Nat) (F : Nat → Int32) : Prop := TV n 0 F ∧ subE F th ∧ ∀ e, TV n 0 e → subE e th → trC k e → subE e F
def isTr (th : Nat → Int32) (n k : Nat) (F : Nat → Int32) : Prop := trI th n k F ∧ trC k F
theorem subE_rf (e : Nat → Int32) : subE e e := fun _ _ _ h => h
theorem subE_tr {a b c : Nat → Int32} (h1 : subE a b) (h2 : subE b c) : subE a c := fun i hi j h => h2 i hi j (h1 i hi j h)
theorem isTr_uniq {th : Nat → Int32} {n k : Nat} {F G : Nat → Int32} (hF : isTr th n k F) (hG : isTr th n k G) {i : Nat} (hi : i < 16) : F i = G i :=
  sub_anti (hG.1.2.2 F hF.1.1 hF.1.2.1 hF.2 i hi) (hF.1.2.2 G hG.1.1 hG.1.2.1 hG.2 i hi)
theorem TV_0 {n : Nat} {pr : Int32} {th : Nat → Int32} (h : TV n pr th) : TV n 0 th := ⟨h.1, fun i hi => absurd hi (by rw [b_0]; decide), h.2.2⟩
theorem trI_0 {th : Nat → Int32} {n k : Nat} {pr : Int32} (h : TV n pr th) : trI th n k th := ⟨TV_0 h, subE_rf th, fun _ _ h _ => h⟩
theorem trC_mono {a b : Nat} {e : Nat → Int32} (h : a ≤ b) (hc : trC b e) : trC a e := fun i j hi hb => Nat.le_trans h (hc i j hi hb)
theorem trI_mono {th : Nat → Int32} {n a b : Nat} {F : Nat → Int32} (h : a ≤ b) (hI : trI th n a F) : trI th n b F := ⟨hI.1, hI.2.1, fun e h1 h2 h3 => hI.2.2 e h1 h2 (trC_mono h h3)⟩
def dropE (F : Nat → Int32) (p q : Nat) : Nat → Int32 := upd (upd F p (F p &&& (bitI (nI q) ^^^ (-1)))) q (F q &&& (bitI (nI p) ^^^ (-1)))
theorem bt_clear {x : Int32} {q j : Nat} (hx : sm x) (hq : q < 16) : bt (x &&& (bitI (nI q) ^^^ (-1))) j = (bt x j && !decide (j = q)) := by
  rw [b_and]
  rcases Nat.lt_or_ge j 16 with h | h
  · rw [bt_m1 (by omega), bitI, b_bit (by omega)]
  · rw [hx j h]; rfl
theorem bt_drop {F : Nat → Int32} {p q i j : Nat} (hp : sm (F p)) (hq : sm (F q)) (h1 : p < 16) (h2 : q < 16) (hne : p ≠ q) : bt (dropE F p q i) j = (bt (F i) j && !(decide (i = p ∧ j = q) || decide (i = q ∧ j = p))) := by
  unfold dropE upd
  by_cases e : i = q
  · subst e
    rw [if_pos rfl, bt_clear hq h1]
    by_cases z : j = p
    · simp [z]
    · simp [z, show ¬ i = p from fun w => hne w.symm]
  · rw [if_neg e]
    by_cases e2 : i = p
    · subst e2
      rw [if_pos rfl, bt_clear hp h2]
      by_cases z : j = q
      · simp [z]
      · simp [z, e]
    · rw [if_neg e2]; simp [e, e2]
theorem trI_drop {th : Nat → Int32} {n k : Nat} {F : Nat → Int32} (hI : trI th n k F) {p q : Nat} (hp : p < 16) (hq : q < 16) (hb : bt (F p) q = true) (hk : ct (F p &&& F q) < k) : trI th n k (dropE F p q) := by
  obtain ⟨hT, hs, hm⟩ := hI
  have hne : p ≠ q := (hT.2.2.1 p q hp hb).2.2
  have hd : ∀ i j, bt (dropE F p q i) j = (bt (F i) j && !(decide (i = p ∧ j = q) || decide (i = q ∧ j = p))) := fun i j => bt_drop (hT.st hp) (hT.st hq) hp hq hne
  refine ⟨⟨hT.1, hT.2.1, fun i j hi h => ?_, fun i j hi hj => ?_⟩, fun i hi j h => ?_, fun e h1 h2 h3 i hi j h => ?_⟩
  · rw [hd, Bool.and_eq_true] at h
    exact hT.2.2.1 i j hi h.1
  · rw [hd, hd, hT.2.2.2 i j hi hj]
    congr 1
    by_cases a : i = p <;> by_cases b : j = q <;> by_cases c : i = q <;> by_cases d : j = p <;> simp [a, b, c, d]
  · rw [hd, Bool.and_eq_true] at h
    exact hs i hi j h.1
  · have hF := hm e h1 h2 h3
    have no : ¬ bt (e p) q = true := fun w => by
      have a := h3 p q hp w
      have b : ct (e p &&& e q) ≤ ct (F p &&& F q) := ct_sub fun t ht w2 => by
        rw [b_and, Bool.and_eq_true] at w2 ⊢
        exact ⟨hF p hp t w2.1, hF q hq t w2.2⟩
      omega
    rw [hd, hF i hi j h]
    have n1 : ¬ (i = p ∧ j = q) := fun w => no (by rw [← w.1, ← w.2]; exact h)
    have n2 : ¬ (i = q ∧ j = p) := fun w => no (by
      rw [h1.2.2.2 p q hp hq, ← w.1, ← w.2]; exact h)
    simp [n1, n2]
/-- the sum of what the rows hold: at most 240, and two less for each thorn that goes -/
def sumE (F : Nat → Int32) : Nat := fb_sm (fun i => ct (F i)) 16
theorem sumE_le {n : Nat} {F : Nat → Int32} (hT : TV n 0 F) : sumE F ≤ 240 := fb_sm_bound (c := 15) (n := 16) fun i hi => ct_th hT hi
theorem ct_clear {x : Int32} {q : Nat} (hx : sm x) (hq : q < 16) (hb : bt x q = true) : ct (x &&& (bitI (nI q) ^^^ (-1))) + 1 = ct x := by
  have h := fb_ct_upd (bt x) false hq
  rw [if_pos hb] at h
  rw [show ct (x &&& (bitI (nI q) ^^^ (-1))) = fb_ct (fun k => if k = q then false else bt x k) 16 from fb_ct_cong fun j _ => by
    rw [bt_clear hx hq]
    by_cases e : j = q <;> simp [e]]
  show _ = fb_ct (bt x) 16
  simpa using h
theorem sumE_drop {n : Nat} {F : Nat → Int32} (hT : TV n 0 F) {p q : Nat} (hp : p < 16) (hq : q < 16) (hb : bt (F p) q = true) : sumE (dropE F p q) + 2 = sumE F := by
  have hne : p ≠ q := (hT.2.2.1 p q hp hb).2.2
  have hb2 : bt (F q) p = true := by rw [hT.2.2.2 q p hq hp]; exact hb
  have e1 := fb_sm_upd (fun i => ct (F i)) (ct (F p &&& (bitI (nI q) ^^^ (-1)))) hp
  have e2 := fb_sm_upd (fun k => if k = p then ct (F p &&& (bitI (nI q) ^^^ (-1))) else ct (F k)) (ct (F q &&& (bitI (nI p) ^^^ (-1)))) hq
  have c1 := ct_clear (hT.st hp) hq hb
  have c2 := ct_clear (hT.st hq) hp hb2
  simp only [if_neg (Ne.symm hne)] at e2
  have e3 : sumE (dropE F p q) = fb_sm (fun k => if k = q then ct (F q &&& (bitI (nI p) ^^^ (-1))) else if k = p then ct (F p &&& (bitI (nI q) ^^^ (-1))) else ct (F k)) 16 := fb_sm_cong fun i _ => by
    unfold dropE upd
    by_cases a : i = q
    · simp [a]
    · by_cases b : i = p
      · subst b; rw [if_neg a, if_pos rfl, if_neg a, if_pos rfl]
      · simp [a, b]
  rw [e3]
  unfold sumE
  omega
/-- the k-truss -/
noncomputable def trE (th : Nat → Int32) (n k : Nat) : Nat → Int32 := Classical.epsilon (isTr th n k)
theorem trE_eq {th : Nat → Int32} {n k : Nat} {F : Nat → Int32} (h : isTr th n k F) {i : Nat} (hi : i < 16) : F i = trE th n k i :=
  isTr_uniq h (Classical.epsilon_spec ⟨F, h⟩) hi
/-- there is one: by dropping -/
theorem tr_ex {th : Nat → Int32} {n k : Nat} {pr : Int32} (hT : TV n pr th) : ∃ F, isTr th n k F := by
  have key : ∀ (s : Nat) (F : Nat → Int32), trI th n k F → sumE F ≤ s → ∃ F, isTr th n k F := by
    intro s
    induction s with
    | zero =>
      intro F hI hs
      refine ⟨F, hI, fun i j hi hb => ?_⟩
      have hj : j < 16 := by have := (hI.1.2.2.1 i j hi hb).2.1; have := hI.1.1; omega
      have := sumE_drop hI.1 hi hj hb
      omega
    | succ s ih =>
      intro F hI hs
      by_cases hc : trC k F
      · exact ⟨F, hI, hc⟩
      · have : ∃ i j, i < 16 ∧ bt (F i) j = true ∧ ct (F i &&& F j) < k := by
          refine Classical.byContradiction fun hn => hc fun i j hi hb => ?_
          rcases Nat.lt_or_ge (ct (F i &&& F j)) k with q | q
          · exact absurd ⟨i, j, hi, hb, q⟩ hn
          · exact q
        obtain ⟨i, j, hi, hb, hk⟩ := this
        have hj : j < 16 := by have := (hI.1.2.2.1 i j hi hb).2.1; have := hI.1.1; omega
        have := sumE_drop hI.1 hi hj hb
        exact ih _ (trI_drop hI hi hj hb hk) (by omega)
  exact key _ th (trI_0 hT) (Nat.le_refl _)
theorem trE_is {th : Nat → Int32} {n k : Nat} {pr : Int32} (hT : TV n pr th) : isTr th n k (trE th n k) := Classical.epsilon_spec (tr_ex hT)
noncomputable def trF (th : Nat → Int32) (n i j : Nat) : Nat → Bool := fun k => bt (trE th n k i) j
/-- the truss number of a thorn -/
noncomputable def trN (th : Nat → Int32) (n i j : Nat) : Nat := topK (trF th n i j) 15
theorem tr_mono {th : Nat → Int32} {n a b : Nat} {pr : Int32} (hT : TV n pr th) (h : a ≤ b) : subE (trE th n b) (trE th n a) :=
  (trE_is hT).1.2.2 _ (trE_is hT).1.1 (trE_is hT).1.2.1 (trC_mono h (trE_is hT).2)
theorem tr_all {th : Nat → Int32} {n : Nat} {pr : Int32} (hT : TV n pr th) {i : Nat} (hi : i < 16) : trE th n 0 i = th i :=
  (trE_eq ⟨trI_0 hT, fun _ _ _ _ => Nat.zero_le _⟩ hi).symm
theorem tr_iff {th : Nat → Int32} {n i j k : Nat} {pr : Int32} (hT : TV n pr th) (hi : i < 16) (hb : bt (th i) j = true) (hk : k ≤ 15) : bt (trE th n k i) j = true ↔ k ≤ trN th n i j := by
  constructor
  · intro h
    rcases Nat.lt_or_ge (trN th n i j) k with q | q
    · have := topK_no (trF th n i j) 15 k q hk
      rw [trF, h] at this
      cases this
    · exact q
  · intro h
    rcases Nat.eq_zero_or_pos (trN th n i j) with q | q
    · have : k = 0 := by omega
      subst this
      rw [tr_all hT hi]; exact hb
    · exact tr_mono hT h i hi j (topK_yes (trF th n i j) 15 q)
theorem tr_16 {th : Nat → Int32} {n i j : Nat} {pr : Int32} (hT : TV n pr th) (hi : i < 16) {k : Nat} (hk : 15 ≤ k) : bt (trE th n k i) j = false := by
  cases hb : bt (trE th n k i) j with
  | false => rfl
  | true =>
    have h := (trE_is hT (k := k)).2 i j hi hb
    have hv := (trE_is hT (k := k)).1.1
    have hj : j < 16 := by have := (hv.2.2.1 i j hi hb).2.1; have := hv.1; omega
    have h1 : ct (trE th n k i &&& trE th n k j) + 1 ≤ ct (trE th n k i) := by
      refine fb_ct_lt (i := j) (fun t _ w => ?_) hj hb ?_
      · rw [b_and, Bool.and_eq_true] at w; exact w.1
      · rw [b_and]
        cases hz : bt (trE th n k j) j with
        | false => simp
        | true => exact absurd rfl (hv.2.2.1 j j hj hz).2.2
    have := ct_th hv hi
    omega
