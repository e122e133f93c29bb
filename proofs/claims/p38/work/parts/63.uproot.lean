/-! ===== p38: what uprooting leaves ===== -/
theorem b_not2 (y : Int32) {i : Nat} (hi : i < 32) : bt (y ^^^ (-1)) i = !bt y i := by rw [b_xor, b_m1 i hi]; cases bt y i <;> rfl
def shN (j i : Nat) : Nat := if i < j then i else i + 1
theorem bt_close (x : Int32) {j i : Nat} (hj : j ≤ 16) (hi : i < 32) : bt (closeG x (nI j)) i = bt x (shN j i) := by
  have e : bitI (nI j) - 1 = allI j := rfl
  unfold closeG
  rw [e, b_or, b_and, b_and, b_not2 _ hi, bt_all hj, show bt ((x.toUInt32 >>> ((1 : Int32).toUInt32 &&& Int32.toUInt32 31)).toInt32) i = _ from b_ushr 1 (by decide) x i]
  unfold shN
  by_cases c : i < j
  · rw [if_pos c, decide_eq_true c]; simp
  · rw [if_neg c, decide_eq_false c, Nat.add_comm 1 i]; simp
theorem bt_pull (th : Nat → Int32) {j i k : Nat} (hj : j < 16) (hi : i < 16) (hk : k < 32) : bt (pullT th j i) k = (decide (shN j i < 16) && bt (th (shN j i)) (shN j k)) := by
  unfold pullT clF
  rw [if_pos hi, bt_close _ (Nat.le_of_lt hj) hk]
  unfold shF shN
  by_cases c : i < j
  · rw [if_neg (by omega), if_pos c, decide_eq_true hi, Bool.true_and]
  · rw [if_pos ⟨by omega, hi⟩, if_neg c]
    by_cases d : i + 1 < 16
    · rw [if_pos d, decide_eq_true d, Bool.true_and]
    · rw [if_neg d, decide_eq_false d, b_0]; rfl
theorem TV_pull {n j : Nat} {pr : Int32} {th : Nat → Int32} (hT : TV n pr th) (hj : j < n) : TV (n - 1) (closeG pr (nI j)) (pullT th j) := by
  obtain ⟨h1, h2, h3, h4⟩ := hT
  refine ⟨by omega, fun i hi => ?_, fun i k hi hb => ?_, fun i k hi hk => ?_⟩
  · by_cases c : i < 32
    · rw [bt_close _ (by omega) c] at hi
      have := h2 _ hi
      unfold shN at this
      split at this <;> omega
    · rw [b_big (by omega)] at hi; cases hi
  · by_cases c : k < 32
    · rw [bt_pull th (by omega) hi c] at hb
      simp only [Bool.and_eq_true, decide_eq_true_eq] at hb
      obtain ⟨a, b, d⟩ := h3 _ _ hb.1 hb.2
      unfold shN at a b d
      refine ⟨?_, ?_, ?_⟩
      · split at a <;> omega
      · split at b <;> omega
      · intro e; exact d (by rw [e])
    · rw [b_big (by omega)] at hb; cases hb
  · rw [bt_pull th (by omega) hi (by omega), bt_pull th (by omega) hk (by omega)]
    have no : ∀ a b, a < 16 → 16 ≤ b → bt (th a) b = false := fun a b ha hb => by
      cases hx : bt (th a) b with
      | false => rfl
      | true => have := (h3 a b ha hx).2.1; omega
    by_cases c : shN j i < 16
    · by_cases d : shN j k < 16
      · rw [decide_eq_true c, decide_eq_true d, h4 _ _ c d]
      · rw [decide_eq_true c, decide_eq_false d, no _ _ c (by omega)]; rfl
    · by_cases d : shN j k < 16
      · rw [decide_eq_false c, decide_eq_true d, no _ _ d (by omega)]; rfl
      · rw [decide_eq_false c, decide_eq_false d]; rfl
theorem sm_skip (f : Nat → Nat) {a : Nat} : ∀ m, a ≤ m → fb_sm (fun i => f (shN a i)) m + f a = fb_sm f (m + 1)
  | 0, h => by
    have e : a = 0 := by omega
    rw [e]; rfl
  | m + 1, h => by
    rw [fb_sm_succ, fb_sm_succ f (m + 1)]
    by_cases e : a = m + 1
    · rw [fb_sm_cong (f := fun i => f (shN a i)) (g := f) (fun k hk => by show f (shN a k) = f k; unfold shN; rw [if_pos (by omega)])]
      have e2 : shN a m = m := by unfold shN; rw [if_pos (by omega)]
      rw [e2, fb_sm_succ, ← e]
    · have ih := sm_skip f m (show a ≤ m by omega)
      have e2 : shN a m = m + 1 := by unfold shN; rw [if_neg (by omega)]
      rw [e2]
      omega
theorem ct_sm (p : Nat → Bool) : ∀ n, fb_ct p n = fb_sm (fun k => if p k = true then 1 else 0) n
  | 0 => rfl
  | n + 1 => by rw [fb_ct_succ, fb_sm_succ, ct_sm p n]
theorem ct_skip (p : Nat → Bool) {a m : Nat} (h : a ≤ m) : fb_ct (fun k => p (shN a k)) m + (if p a = true then 1 else 0) = fb_ct p (m + 1) := by
  rw [ct_sm, ct_sm]
  exact sm_skip (fun k => if p k = true then 1 else 0) m h
theorem ct_pull {n a i : Nat} {pr : Int32} {th : Nat → Int32} (hT : TV n pr th) (ha : a < n) (hi : i < 15) : ct (pullT th a i) + (if bt (th (shN a i)) a = true then 1 else 0) = ct (th (shN a i)) := by
  have hn := hT.1
  have hs : shN a i < 16 := by unfold shN; split <;> omega
  have e : ct (pullT th a i) = fb_ct (fun k => bt (th (shN a i)) (shN a k)) (15 + 1) := fb_ct_cong (fun k hk => by
    rw [bt_pull th (by omega) (by omega) (by omega), decide_eq_true hs, Bool.true_and])
  have e2 : bt (th (shN a i)) (shN a 15) = false := by
    have e3 : shN a 15 = 16 := by unfold shN; rw [if_neg (by omega)]
    rw [e3]
    exact sm_row hT hs 16 (Nat.le_refl _)
  rw [e, fb_ct_succ, e2, if_neg (by decide), Nat.add_zero]
  exact ct_skip (bt (th (shN a i))) (show a ≤ 15 by omega)
theorem sumE_pull {n a : Nat} {pr : Int32} {th : Nat → Int32} (hT : TV n pr th) (ha : a < n) : sumE (pullT th a) + 2 * ct (th a) = sumE th := by
  have hn := hT.1
  have e15 : ct (pullT th a 15) = 0 := fb_ct_zero.mpr (fun k hk => by
    have e3 : shN a 15 = 16 := by unfold shN; rw [if_neg (by omega)]
    rw [bt_pull th (by omega) (by omega) (by omega), e3]; rfl)
  have e1 : sumE (pullT th a) = fb_sm (fun i => ct (pullT th a i)) 15 := by
    show fb_sm (fun i => ct (pullT th a i)) (15 + 1) = _
    rw [fb_sm_succ, e15, Nat.add_zero]
  have e2 : fb_sm (fun i => ct (pullT th a i)) 15 + fb_sm (fun i => if bt (th (shN a i)) a = true then 1 else 0) 15 = fb_sm (fun i => ct (th (shN a i))) 15 := by
    rw [← fb_sm_add]
    exact fb_sm_cong (fun i hi => ct_pull hT ha hi)
  have e3 := sm_skip (fun s => if bt (th s) a = true then 1 else 0) (a := a) 15 (by omega)
  have e4 := sm_skip (fun s => ct (th s)) (a := a) 15 (by omega)
  have e5 : fb_sm (fun s => if bt (th s) a = true then 1 else 0) (15 + 1) = ct (th a) := by
    unfold ct
    rw [ct_sm]
    exact fb_sm_cong (fun s hs => by
      show (if bt (th s) a = true then 1 else 0) = _
      rw [hT.2.2.2 s a hs (by omega)])
  have e6 : (if bt (th a) a = true then 1 else 0) = 0 := by
    rw [irr hT (by omega)]; rfl
  have e7 : fb_sm (fun s => ct (th s)) (15 + 1) = sumE th := rfl
  rw [e5, e6] at e3
  rw [e7] at e4
  rw [e1]
  rw [Nat.add_zero] at e3
  omega
theorem pull_due {n a : Nat} {pr : Int32} {th : Nat → Int32} (hT : TV n pr th) (ha : a + 1 < n) : pullT th a (n - 2) = (th (n - 1) &&& (((1 : Int32) <<< (nI a &&& 31)) - 1)) ||| ((th (n - 1) >>> ((1 : Int32) &&& 31)) &&& ((((1 : Int32) <<< (nI a &&& 31)) - 1) ^^^ (-1))) := b_ext (fun k hk => by
  have hn := hT.1
  have hs : shN a (n - 2) = n - 1 := by unfold shN; rw [if_neg (by omega)]; omega
  have hsm := sm_row hT (show n - 1 < 16 by omega)
  rw [bt_pull th (by omega) (by omega) hk, hs, decide_eq_true (show n - 1 < 16 by omega), Bool.true_and, b_or, b_and, b_and, bt_m1 hk, b_all (show a ≤ 16 by omega), show (1 : Int32) &&& 31 = nI 1 &&& 31 from rfl, b_sshr 1 (by decide) _ hk]
  unfold shN
  by_cases c : k < a
  · rw [if_pos c, decide_eq_true c]; simp
  · rw [if_neg c, decide_eq_false c]
    by_cases d : 1 + k < 32
    · rw [if_pos d, Nat.add_comm 1 k]; simp
    · rw [if_neg d, hsm (k + 1) (by omega), hsm 31 (by omega)]; simp)
