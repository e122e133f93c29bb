/-! ===== p38: what the law's checks rest on: sums of thorns, triangles ===== -/
theorem nb_0 {n : Nat} {pr : Int32} {th : Nat → Int32} (hT : TV n pr th) (h : n < 16) : th n = 0 := b_ext (fun i _ => by
  rw [b_0]
  cases q : bt (th n) i
  · rfl
  · exact absurd (hT.2.2.1 n i h q).1 (Nat.lt_irrefl _))
theorem pr_n {n : Nat} {pr : Int32} {th : Nat → Int32} (hT : TV n pr th) : bt pr n = false := by
  cases q : bt pr n
  · rfl
  · exact absurd (hT.2.1 n q) (Nat.lt_irrefl _)
theorem TV_plant {n : Nat} {pr : Int32} {th : Nat → Int32} (hT : TV n pr th) (h : n < 16) : TV (n + 1) pr th := ⟨h, fun i hi => Nat.lt_succ_of_lt (hT.2.1 i hi), fun i j hi hb => ⟨Nat.lt_succ_of_lt (hT.2.2.1 i j hi hb).1, Nat.lt_succ_of_lt (hT.2.2.1 i j hi hb).2.1, (hT.2.2.1 i j hi hb).2.2⟩, hT.2.2.2⟩
theorem irr {n i : Nat} {pr : Int32} {th : Nat → Int32} (hT : TV n pr th) (hi : i < 16) : bt (th i) i = false := by
  cases q : bt (th i) i
  · rfl
  · exact absurd rfl (hT.2.2.1 i i hi q).2.2
theorem row_out {n i : Nat} {pr : Int32} {th : Nat → Int32} (hT : TV n pr th) (h : n ≤ i) (hi : i < 16) : ct (th i) = 0 := fb_ct_zero.mpr (fun k _ => by
  cases q : bt (th i) k
  · rfl
  · exact absurd (hT.2.2.1 i k hi q).1 (by omega))
theorem sumE_n {n : Nat} {pr : Int32} {th : Nat → Int32} (hT : TV n pr th) : sumE th = fb_sm (fun i => ct (th i)) n := by
  have hn := hT.1
  have e : sumE th = fb_sm (fun i => ct (th i)) (n + (16 - n)) := by unfold sumE; rw [show n + (16 - n) = 16 by omega]
  rw [e, fb_sm_split, fb_sm_cong (f := fun k => ct (th (n + k))) (g := fun _ => 0) (fun k hk => row_out hT (show n ≤ n + k by omega) (by omega)), fb_sm_const, Nat.mul_zero, Nat.add_zero]
theorem sumI_ct {n : Nat} {pr : Int32} {th : Nat → Int32} (hT : TV n pr th) : ∀ i, i ≤ n → sumI (fun k => bcI (rowAt th 16 (nI k))) i = nI (fb_sm (fun k => ct (th k)) i)
  | 0, _ => rfl
  | i + 1, hi => by
    have hn := hT.1
    rw [sumI, sumI_ct hT i (by omega), all_one hT (by omega), nI_add]; rfl
theorem sumI_nI (f : Nat → Nat) : ∀ i, sumI (fun k => nI (f k)) i = nI (fb_sm f i)
  | 0 => rfl
  | i + 1 => by rw [sumI, sumI_nI f i, nI_add]; rfl
theorem thT_eq {n : Nat} {pr : Int32} {th : Nat → Int32} (hT : TV n pr th) : thT th n = nI (sumE th / 2) := by
  have h := sumE_le (TV_0 hT)
  unfold thT
  rw [sumI_ct hT n (Nat.le_refl _), ← sumE_n hT, show (2 : Int32) = nI 2 from by decide +kernel, pk_div (by omega) (by decide) (by decide)]
theorem trS_eq {n k : Nat} {pr : Int32} {th : Nat → Int32} (hT : TV n pr th) : trS th n k = nI (sumE (trE th n k) / 2) := by
  have h := sumE_le (trE_is (k := k) hT).1.1
  unfold trS
  rw [sumI_nI]
  show nI (sumE (trE th n k)) / 2 = _
  rw [show (2 : Int32) = nI 2 from by decide +kernel, pk_div (by omega) (by decide) (by decide)]
theorem TV_drop {n p q : Nat} {F : Nat → Int32} (hT : TV n 0 F) (hp : p < 16) (hq : q < 16) (hb : bt (F p) q = true) : TV n 0 (dropE F p q) := (trI_drop (trI_0 (k := 17) hT) hp hq hb (by have := ct_le (F p &&& F q); omega)).1
theorem sumE_even {n : Nat} : ∀ (m : Nat) (F : Nat → Int32), TV n 0 F → sumE F ≤ m → sumE F % 2 = 0 := by
  intro m
  induction m with
  | zero => intro F _ h; rw [show sumE F = 0 by omega]
  | succ m ih =>
    intro F hT h
    by_cases z : sumE F = 0
    · rw [z]
    · have hex : ∃ p, p < 16 ∧ ct (F p) ≠ 0 := Classical.byContradiction (fun q => z (by
        unfold sumE
        rw [fb_sm_cong (f := fun i => ct (F i)) (g := fun _ => 0) (fun k hk => Classical.byContradiction (fun w => q ⟨k, hk, w⟩)), fb_sm_const, Nat.mul_zero]))
      obtain ⟨p, hp, hc⟩ := hex
      obtain ⟨q, hq, hb⟩ := fb_ct_pos.mp (Nat.pos_of_ne_zero hc)
      have e := sumE_drop hT hp hq hb
      have h2 := ih (dropE F p q) (TV_drop hT hp hq hb) (by omega)
      omega
theorem sumE_2 {n : Nat} {pr : Int32} {th : Nat → Int32} (hT : TV n pr th) : 2 * (sumE th / 2) = sumE th := by
  have := sumE_even _ th (TV_0 hT) (Nat.le_refl _)
  omega
/-! a thorn more -/
theorem TVt {n i j : Nat} {pr : Int32} {th : Nat → Int32} (hT : TV n pr th) (hi : i < n) (hj : j < n) (hne : i ≠ j) (hb : bt (th i) j = false) : TV n pr (tieE th i j) := by
  have h := TV_tie (σ := (n, pr, th)) (i := i) (j := j) hT
  rw [show tieS i j (n, pr, th) = (true, (n, pr, tieE th i j)) from if_pos ⟨hi, hj, hne, hb⟩] at h
  exact h
theorem TVu {n i j : Nat} {pr : Int32} {th : Nat → Int32} (hT : TV n pr th) (hi : i < 16) (hb : bt (th i) j = true) : TV n pr (untE th i j) := by
  have h := TV_unt (σ := (n, pr, th)) (i := i) (j := j) hi hT
  rw [show untS i j (n, pr, th) = (true, (n, pr, untE th i j)) from if_pos hb] at h
  exact h
theorem drop_tie {n i j : Nat} {pr : Int32} {th : Nat → Int32} (hT : TV n pr th) (hi : i < n) (hj : j < n) (hne : i ≠ j) (hb : bt (th i) j = false) : dropE (tieE th i j) i j = th := by
  have hn := hT.1
  have hT2 := TVt hT hi hj hne hb
  have hb2 : bt (th j) i = false := by rw [← hT.2.2.2 i j (by omega) (by omega)]; exact hb
  funext a
  by_cases c : a = i ∨ a = j
  · apply b_ext
    intro k _
    rw [bt_drop (sm_row hT2 (by omega)) (sm_row hT2 (by omega)) (by omega) (by omega) hne, bt_tie (by omega) (by omega) hne]
    cases d : (decide (a = i ∧ k = j) || decide (a = j ∧ k = i))
    · simp
    · have z : bt (th a) k = false := by
        simp only [Bool.or_eq_true, decide_eq_true_eq] at d
        rcases d with ⟨e1, e2⟩ | ⟨e1, e2⟩
        · rw [e1, e2]; exact hb
        · rw [e1, e2]; exact hb2
      rw [z]; rfl
  · have h1 : a ≠ i := fun e => c (Or.inl e)
    have h2 : a ≠ j := fun e => c (Or.inr e)
    simp [dropE, tieE, upd, h1, h2]
theorem tie_unt {n i j : Nat} {pr : Int32} {th : Nat → Int32} (hT : TV n pr th) (hi : i < n) (hj : j < n) (hne : i ≠ j) (hb : bt (th i) j = true) : tieE (untE th i j) i j = th := by
  have hn := hT.1
  have hb2 : bt (th j) i = true := by rw [← hT.2.2.2 i j (by omega) (by omega)]; exact hb
  rw [untE_drop hne]
  funext a
  by_cases c : a = i ∨ a = j
  · apply b_ext
    intro k _
    rw [bt_tie (by omega) (by omega) hne, bt_drop (sm_row hT (by omega)) (sm_row hT (by omega)) (by omega) (by omega) hne]
    cases d : (decide (a = i ∧ k = j) || decide (a = j ∧ k = i))
    · simp
    · have z : bt (th a) k = true := by
        simp only [Bool.or_eq_true, decide_eq_true_eq] at d
        rcases d with ⟨e1, e2⟩ | ⟨e1, e2⟩
        · rw [e1, e2]; exact hb
        · rw [e1, e2]; exact hb2
      rw [z]; rfl
  · have h1 : a ≠ i := fun e => c (Or.inl e)
    have h2 : a ≠ j := fun e => c (Or.inr e)
    simp [dropE, tieE, upd, h1, h2]
theorem unt_no {n i j : Nat} {pr : Int32} {th : Nat → Int32} (hT : TV n pr th) (hi : i < n) (hj : j < n) (hne : i ≠ j) : bt (untE th i j i) j = false := by
  have hn := hT.1
  rw [untE_drop hne, bt_drop (sm_row hT (by omega)) (sm_row hT (by omega)) (by omega) (by omega) hne]
  simp
theorem tie_yes {n i j : Nat} {th : Nat → Int32} (hn : n ≤ 16) (hi : i < n) (hj : j < n) (hne : i ≠ j) : bt (tieE th i j i) j = true := by
  rw [bt_tie (by omega) (by omega) hne]
  simp
theorem sumE_tie {n i j : Nat} {pr : Int32} {th : Nat → Int32} (hT : TV n pr th) (hi : i < n) (hj : j < n) (hne : i ≠ j) (hb : bt (th i) j = false) : sumE (tieE th i j) = sumE th + 2 := by
  have hn := hT.1
  have h := sumE_drop (TV_0 (TVt hT hi hj hne hb)) (p := i) (q := j) (by omega) (by omega) (tie_yes hn hi hj hne)
  rw [drop_tie hT hi hj hne hb] at h
  exact h.symm
theorem ct_tie {n i j : Nat} {pr : Int32} {th : Nat → Int32} (hT : TV n pr th) (hi : i < n) (hj : j < n) (hne : i ≠ j) (hb : bt (th i) j = false) : ct (tieE th i j i) = ct (th i) + 1 := by
  have hn := hT.1
  have h := ct_clear (sm_row (TVt hT hi hj hne hb) (show i < 16 by omega)) (q := j) (by omega) (tie_yes hn hi hj hne)
  have e : dropE (tieE th i j) i j i = th i := by rw [drop_tie hT hi hj hne hb]
  have e2 : dropE (tieE th i j) i j i = tieE th i j i &&& (bitI (nI j) ^^^ (-1)) := by
    unfold dropE
    generalize tieE th i j = F
    simp [upd, hne]
  rw [← e2, e] at h
  exact h.symm
theorem ct_tie2 {n i j : Nat} {pr : Int32} {th : Nat → Int32} (hT : TV n pr th) (hi : i < n) (hj : j < n) (hne : i ≠ j) : ct (tieE th i j i &&& tieE th i j j) = ct (th i &&& th j) := ct_cong (fun k hk => by
  have hn := hT.1
  have z1 := irr hT (show i < 16 by omega)
  have z2 := irr hT (show j < 16 by omega)
  rw [b_and, b_and, bt_tie (by omega) (by omega) hne, bt_tie (by omega) (by omega) hne]
  by_cases e1 : k = j
  · subst e1; simp [z2, hne, Ne.symm hne]
  · by_cases e2 : k = i
    · subst e2; simp [z1, hne, Ne.symm hne]
    · simp [e1, e2])
/-! triangles: each counted six times -/
def i3 (th : Nat → Int32) (p q r : Nat) : Nat := if tri3 th p q r = true then 1 else 0
theorem tri_6 {n : Nat} {pr : Int32} {th : Nat → Int32} (hT : TV n pr th) : W3 n (i3 th) = 6 * triN th n := by
  have hn := hT.1
  have e1 : supN th n = W3 n (fun p q r => if p < q ∧ tri3 th p q r = true then 1 else 0) := by
    refine sN_congr (fun p hp => sN_congr (fun q hq => ?_))
    show (if p < q ∧ bt (th p) q = true then ct (th p &&& th q) else 0) = _
    rw [ct_sum hT (th q) (by omega), sN_if]
    refine sN_congr (fun r _ => ?_)
    simp only [tri3, Bool.and_eq_true]
    by_cases h : p < q <;> by_cases h2 : bt (th p) q = true <;> simp [h, h2]
  have e : W3 n (i3 th) = W3 n (fun p q r => (if p < q ∧ tri3 th p q r = true then 1 else 0) + (if q < p ∧ tri3 th p q r = true then 1 else 0)) := W3_congr (fun p q r hp hq hr => by
    unfold i3
    cases ht : tri3 th p q r
    · simp
    · obtain ⟨n1, -, -⟩ := tri_ne hT (by omega) (by omega) ht
      rcases Nat.lt_or_gt_of_ne n1 with a | a
      · simp [a, Nat.lt_asymm a]
      · simp [a, Nat.lt_asymm a])
  have e2 : W3 n (fun p q r => if q < p ∧ tri3 th p q r = true then 1 else 0) = W3 n (fun p q r => if p < q ∧ tri3 th p q r = true then 1 else 0) := by
    rw [W3_12]
    exact W3_congr (fun p q r hp hq hr => by rw [(tri_swap hT (p := p) (q := q) (r := r) (by omega) (by omega) (by omega)).1])
  rw [e, W3_add, e2, ← e1, sup_tri hT]
  omega
theorem sN_one (f : Nat → Nat) {a : Nat} : ∀ {n : Nat}, a < n → sN (fun i => if i = a then f i else 0) n = f a
  | 0, h => absurd h (Nat.not_lt_zero _)
  | n + 1, h => by
    rw [sN]
    by_cases e : n = a
    · subst e
      rw [if_pos rfl, sN_none (fun i hi => if_neg (by omega)), Nat.zero_add]
    · rw [if_neg e, sN_one f (by omega), Nat.add_zero]
theorem W3_d (g : Nat → Nat) {n a b : Nat} (ha : a < n) (hb : b < n) : W3 n (fun p q r => if p = a ∧ q = b then g r else 0) = sN g n := by
  have e : W3 n (fun p q r => if p = a ∧ q = b then g r else 0) = sN (fun p => if p = a then sN (fun q => if q = b then sN g n else 0) n else 0) n := by
    refine sN_congr (fun p _ => ?_)
    show sN (fun q => sN (fun r => if p = a ∧ q = b then g r else 0) n) n = _
    rw [sN_if]
    refine sN_congr (fun q _ => ?_)
    by_cases h : p = a
    · by_cases h2 : q = b
      · simp [h, h2]
      · simp only [h2, and_false, if_false, if_true]; rw [sN_zero]; simp
    · simp only [h, false_and, if_false]; exact sN_zero n
  rw [e, sN_one (fun _ => sN (fun q => if q = b then sN g n else 0) n) ha, sN_one (fun _ => sN g n) hb]
theorem W3_d2 (g : Nat → Nat) {n a b : Nat} (ha : a < n) (hb : b < n) : W3 n (fun p q r => if p = a ∧ r = b then g q else 0) = sN g n := by
  rw [W3_23]; exact W3_d g ha hb
theorem W3_d3 (g : Nat → Nat) {n a b : Nat} (ha : a < n) (hb : b < n) : W3 n (fun p q r => if q = a ∧ r = b then g p else 0) = sN g n := by
  rw [W3_12]; exact W3_d2 g ha hb
def gC (th : Nat → Int32) (a b : Nat) : Nat → Nat := fun r => if bt (th a) r = true ∧ bt (th b) r = true then 1 else 0
theorem i3_tie {n a b : Nat} {pr : Int32} {th : Nat → Int32} (hT : TV n pr th) (ha : a < n) (hb : b < n) (hne : a ≠ b) (h0 : bt (th a) b = false) {p q r : Nat} (hp : p < n) (hq : q < n) (hr : r < n) :
    i3 (tieE th a b) p q r = i3 th p q r + ((((if p = a ∧ q = b then gC th a b r else 0) + (if p = b ∧ q = a then gC th a b r else 0)) + ((if p = a ∧ r = b then gC th a b q else 0) + (if p = b ∧ r = a then gC th a b q else 0))) + ((if q = a ∧ r = b then gC th a b p else 0) + (if q = b ∧ r = a then gC th a b p else 0))) := by
  have hn := hT.1
  have hs := hT.2.2.2
  have h0' : bt (th b) a = false := by rw [← hs a b (by omega) (by omega)]; exact h0
  have z1 := irr hT (show a < 16 by omega)
  have z2 := irr hT (show b < 16 by omega)
  have s1 := hs p a (by omega) (by omega)
  have s2 := hs p b (by omega) (by omega)
  have s3 := hs q a (by omega) (by omega)
  have s4 := hs q b (by omega) (by omega)
  unfold i3 tri3 gC
  rw [bt_tie (by omega) (by omega) hne, bt_tie (by omega) (by omega) hne, bt_tie (by omega) (by omega) hne]
  have ne' := Ne.symm hne
  by_cases p1 : p = a
  · subst p1
    by_cases q1 : q = p
    · subst q1; simp [z1, h0, h0', hne, ne']
    · by_cases q2 : q = b
      · subst q2
        by_cases r1 : r = p
        · subst r1; simp [z1, z2, h0, h0', hne, ne']
        · by_cases r2 : r = q
          · subst r2; simp [z1, z2, h0, h0', hne, ne']
          · simp [z1, z2, h0, h0', hne, ne', r1, r2]
      · by_cases r1 : r = p
        · subst r1; simp [z1, z2, h0, h0', hne, ne', q1, q2]
        · by_cases r2 : r = b
          · subst r2; simp [z1, z2, h0, h0', hne, ne', q1, q2, s3, s4]
          · simp [z1, z2, h0, h0', hne, ne', q1, q2, r1, r2]
  · by_cases p2 : p = b
    · subst p2
      by_cases q1 : q = p
      · subst q1; simp [z2, h0, h0', hne, ne']
      · by_cases q2 : q = a
        · subst q2
          by_cases r1 : r = p
          · subst r1; simp [z1, z2, h0, h0', hne, ne']
          · by_cases r2 : r = q
            · subst r2; simp [z1, z2, h0, h0', hne, ne']
            · simp [z1, z2, h0, h0', hne, ne', r1, r2, And.comm]
        · by_cases r1 : r = p
          · subst r1; simp [z1, z2, h0, h0', hne, ne', q1, q2]
          · by_cases r2 : r = a
            · subst r2; simp [z1, z2, h0, h0', hne, ne', q1, q2, s3, s4, And.comm]
            · simp [z1, z2, h0, h0', hne, ne', q1, q2, r1, r2]
    · by_cases q1 : q = a
      · subst q1
        by_cases r1 : r = q
        · subst r1; simp [z1, z2, h0, h0', hne, ne', p1, p2]
        · by_cases r2 : r = b
          · subst r2; simp [z1, z2, h0, h0', hne, ne', p1, p2, s1, s2]
          · simp [z1, z2, h0, h0', hne, ne', p1, p2, r1, r2]
      · by_cases q2 : q = b
        · subst q2
          by_cases r1 : r = q
          · subst r1; simp [z1, z2, h0, h0', hne, ne', p1, p2]
          · by_cases r2 : r = a
            · subst r2; simp [z1, z2, h0, h0', hne, ne', p1, p2, s1, s2, And.comm]
            · simp [z1, z2, h0, h0', hne, ne', p1, p2, r1, r2]
        · simp [p1, p2, q1, q2]
theorem tri_tie {n a b : Nat} {pr : Int32} {th : Nat → Int32} (hT : TV n pr th) (ha : a < n) (hb : b < n) (hne : a ≠ b) (h0 : bt (th a) b = false) : triN (tieE th a b) n = triN th n + ct (th a &&& th b) := by
  have hn := hT.1
  have e1 := tri_6 (TVt hT ha hb hne h0)
  have e2 := tri_6 hT
  have e3 : ct (th a &&& th b) = sN (gC th a b) n := ct_sum hT (th b) (by omega)
  rw [W3_congr (fun p q r hp hq hr => i3_tie hT ha hb hne h0 hp hq hr), W3_add, W3_add, W3_add, W3_add, W3_add, W3_add, W3_d _ ha hb, W3_d _ hb ha, W3_d2 _ ha hb, W3_d2 _ hb ha, W3_d3 _ ha hb, W3_d3 _ hb ha, ← e3] at e1
  have e4 : W3 n (fun p q r => i3 th p q r) = 6 * triN th n := e2
  omega
