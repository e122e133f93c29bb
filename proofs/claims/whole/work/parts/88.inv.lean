/-! ===== what holds between the calls ===== -/
theorem b_not2 (y : Int32) {i : Nat} (hi : i < 32) : bt (y ^^^ (-1)) i = !bt y i := by rw [b_xor, b_m1 i hi]; cases bt y i <;> rfl
def shN (j i : Nat) : Nat := if i < j then i else i + 1
theorem bt_close (x : Int32) {j i : Nat} (hj : j ≤ 16) (hi : i < 32) : bt (closeG x (nI j)) i = bt x (shN j i) := by
  have e : bitI (nI j) - 1 = allI j := rfl
  unfold closeG
  rw [e, b_or, b_and, b_and, b_not2 _ hi, bt_all hj, show bt ((x.toUInt32 >>> ((1 : Int32).toUInt32 &&& Int32.toUInt32 31)).toInt32) i = _ from b_ushr 1 (by decide) x i]
  unfold shN
  by_cases c : i < j
  · rw [if_pos c, decide_eq_true c]; simp
  · rw [if_neg c, decide_eq_false c, Nat.add_comm 1 i]; simp
theorem bt_pull (th : Nat → Int32) {j i k : Nat} (hj : j < 16) (hi : i < 16) (hk : k < 32) : bt (pullT th j i) k = (decide (shN j i < 16) && bt (th (shN j i)) (shN j k)) := by
  unfold pullT clF
  rw [if_pos hi, bt_close _ (Nat.le_of_lt hj) hk]
  unfold shF shN
  by_cases c : i < j
  · rw [if_neg (by omega), if_pos c, decide_eq_true hi, Bool.true_and]
  · rw [if_pos ⟨by omega, hi⟩, if_neg c]
    by_cases d : i + 1 < 16
    · rw [if_pos d, decide_eq_true d, Bool.true_and]
    · rw [if_neg d, decide_eq_false d, b_0]; rfl
theorem TV_pull {n j : Nat} {pr : Int32} {th : Nat → Int32} (hT : TV n pr th) (hj : j < n) : TV (n - 1) (closeG pr (nI j)) (pullT th j) := by
  obtain ⟨h1, h2, h3, h4⟩ := hT
  refine ⟨by omega, fun i hi => ?_, fun i k hi hb => ?_, fun i k hi hk => ?_⟩
  · by_cases c : i < 32
    · rw [bt_close _ (by omega) c] at hi
      have := h2 _ hi
      unfold shN at this
      split at this <;> omega
    · rw [b_big (by omega)] at hi; cases hi
  · by_cases c : k < 32
    · rw [bt_pull th (by omega) hi c] at hb
      simp only [Bool.and_eq_true, decide_eq_true_eq] at hb
      obtain ⟨a, b, d⟩ := h3 _ _ hb.1 hb.2
      unfold shN at a b d
      refine ⟨?_, ?_, ?_⟩
      · split at a <;> omega
      · split at b <;> omega
      · intro e; exact d (by rw [e])
    · rw [b_big (by omega)] at hb; cases hb
  · rw [bt_pull th (by omega) hi (by omega), bt_pull th (by omega) hk (by omega)]
    have no : ∀ a b, a < 16 → 16 ≤ b → bt (th a) b = false := fun a b ha hb => by
      cases hx : bt (th a) b with
      | false => rfl
      | true => have := (h3 a b ha hx).2.1; omega
    by_cases c : shN j i < 16
    · by_cases d : shN j k < 16
      · rw [decide_eq_true c, decide_eq_true d, h4 _ _ c d]
      · rw [decide_eq_true c, decide_eq_false d, no _ _ c (by omega)]; rfl
    · by_cases d : shN j k < 16
      · rw [decide_eq_false c, decide_eq_true d, no _ _ d (by omega)]; rfl
      · rw [decide_eq_false c, decide_eq_false d]; rfl
theorem TV_run {c : Nat → Int32} {w : Nat} (hw : w ≤ 60) (hv : dfa c w = 4) : ∀ (f i : Nat) (x : Nat × St), (i < w → dfa c i = 0) → TVs x.2 → TVs (runC c w f i x).2
  | 0, _, _, _, hT => hT
  | f + 1, i, x, h0, hT => by
    by_cases hlt : i < w
    · obtain ⟨ho, g1, g2, g3, -⟩ := chg_ok hw hv hlt (h0 hlt)
      rw [run_step hlt]
      exact TV_run hw hv f _ _ (fun h => (g2 (by omega)).1) (TV_chg ho hT)
    · rw [run_stop (by omega)]; exact hT
def vS (f : Nat → Int32) : Prop := ∃ (n : Nat) (pr : Int32) (th : Nat → Int32), TV n pr th ∧ ∀ k, k < 18 → f k = stV (nI n) pr th k
def InvD (μ : Mem) (n q : Nat) (h : Nat → Nat → Int32) (w : Nat) (bs : Bool) : Prop :=
  μ 1 0 = nI n ∧ TV n (μ 1 1) (μ 3) ∧ Mo μ n (μ 1 1) (μ 3) ∧ CH μ q h ∧ MH μ q h ∧ (∀ t, t < q → vS (h t)) ∧ μ 4 1 = nI w ∧ μ 25 6 = nI w ∧ w ≤ 60 ∧ μ 29 = μ 6 ∧ μ 0 4 = b2i bs ∧ μ 25 4 = b2i bs ∧ (bs = true → vS (μ 11) ∧ ∀ k, k < 18 → μ 28 k = μ 11 k)
def Inv (μ : Mem) : Prop := ∃ (n q : Nat) (h : Nat → Nat → Int32) (w : Nat) (bs : Bool), InvD μ n q h w bs
theorem inv_0 : Inv (fun _ _ => 0) := by
  refine ⟨0, 0, fun _ _ => 0, 0, false, rfl, ⟨by omega, fun i h => ?_, fun i j _ h => ?_, fun i j _ _ => (show bt 0 j = bt 0 i by rw [b_0, b_0])⟩, ⟨rfl, rfl, fun _ _ => rfl⟩, ⟨0, by omega, rfl, rfl, by omega, fun t h => absurd h (Nat.not_lt_zero t)⟩, ⟨rfl, by omega, fun t h => absurd h (Nat.not_lt_zero t)⟩, fun t h => absurd h (Nat.not_lt_zero t), rfl, rfl, by omega, rfl, rfl, rfl, fun h => by cases h⟩
  · rw [b_0] at h; cases h
  · rw [b_0] at h; cases h
/-- the cells that a call of the class may change (33: what the helper writes) -/
abbrev CC : List Nat := [0, 1, 3, 4, 6, 7, 9, 11, 14, 17, 19, 22, 24, 33]
/-- .. of a question -/
abbrev SC : List Nat := [14, 17, 19, 22, 24, 33]
abbrev MC : List Nat := [25, 30, 31, 32]
theorem same.mono {μ μ' : Mem} {L L' : List Nat} (h : same μ μ' L) (hL : ∀ k ∈ L, k ∈ L') : same μ μ' L' := fun k hk => h k (fun q => hk (hL k q))
theorem same.tr {μ μ' μ'' : Mem} {L : List Nat} (h : same μ μ' L) (h2 : same μ' μ'' L) : same μ μ'' L := fun k hk => (h2 k hk).trans (h k hk)
theorem same.o33 {μ μ1 : Mem} {L : List Nat} {f : Nat → Int32} (h : same μ μ1 L) (hL : 33 ∈ L) : same μ (mset μ1 33 f) L := fun k hk => (mset_ne μ1 (k := 33) (j := k) f (fun e => hk (by rw [e]; exact hL))).trans (h k hk)
theorem same.rf {μ : Mem} {L : List Nat} : same μ μ L := fun _ _ => rfl
theorem same.m1 {μ : Mem} {L : List Nat} {a : Nat} {f : Nat → Int32} (ha : a ∈ L) : same μ (mset μ a f) L := fun k hk => mset_ne μ (k := a) (j := k) f (fun e => hk (by rw [e]; exact ha))
theorem same.m2 {μ : Mem} {L : List Nat} {a b : Nat} {f g : Nat → Int32} (ha : a ∈ L) (hb : b ∈ L) : same μ (mset (mset μ a f) b g) L := fun k hk => (mset_ne (mset μ a f) (k := b) (j := k) g (fun e => hk (by rw [e]; exact hb))).trans (mset_ne μ (k := a) (j := k) f (fun e => hk (by rw [e]; exact ha)))
theorem kp.sm {μ μ' : Mem} {L L' : List Nat} (h : kp μ μ' L) (hL : ∀ k ∈ L, k ∈ L') : same μ μ' L' := h.2.mono hL
section IV
variable {μ μ1 μ2 μ3 : Mem} {n q w : Nat} {h : Nat → Nat → Int32} {bs : Bool}
theorem InvD.mo (H : InvD μ n q h w bs) (hs : same μ μ2 CC) : Mo μ2 n (μ 1 1) (μ 3) := by
  have e := hs 26 (by decide)
  unfold Mo; rw [e]; exact H.2.2.1
theorem InvD.mh (H : InvD μ n q h w bs) (hs : same μ μ2 CC) : MH μ2 q h := by
  have e := hs 25 (by decide)
  have e2 := hs 27 (by decide)
  unfold MH; rw [e, e2]; exact H.2.2.2.2.1
theorem InvD.tx (H : InvD μ n q h w bs) (hs : same μ μ2 CC) : μ2 25 6 = nI w := by
  rw [hs 25 (by decide)]; exact H.2.2.2.2.2.2.2.1
theorem InvD.wl (H : InvD μ n q h w bs) : w ≤ 60 := H.2.2.2.2.2.2.2.2.1
theorem InvD.t4 (H : InvD μ n q h w bs) : μ 4 1 = nI w := H.2.2.2.2.2.2.1
theorem InvD.t29 (H : InvD μ n q h w bs) (hs : same μ μ2 CC) : μ2 29 = μ 6 := by
  rw [hs 29 (by decide)]; exact H.2.2.2.2.2.2.2.2.2.1
theorem InvD.s0 (H : InvD μ n q h w bs) : μ 0 4 = b2i bs := H.2.2.2.2.2.2.2.2.2.2.1
theorem InvD.s4 (H : InvD μ n q h w bs) (hs : same μ μ2 CC) : μ2 25 4 = b2i bs := by
  rw [hs 25 (by decide)]; exact H.2.2.2.2.2.2.2.2.2.2.2.1
theorem InvD.ch (H : InvD μ n q h w bs) : CH μ q h := H.2.2.2.1
theorem InvD.vs (H : InvD μ n q h w bs) : ∀ t, t < q → vS (h t) := H.2.2.2.2.2.1
theorem InvD.sn (H : InvD μ n q h w bs) : bs = true → vS (μ 11) ∧ ∀ k, k < 18 → μ 28 k = μ 11 k := H.2.2.2.2.2.2.2.2.2.2.2.2
/-- nothing that counts has changed -/
theorem inv_keep (H : InvD μ n q h w bs) (e : ∀ k, k ∈ [0, 1, 3, 4, 6, 7, 9, 11, 26, 27, 28, 29] → μ3 k = μ k) (e2 : μ3 25 2 = μ 25 2) (e4 : μ3 25 4 = μ 25 4) (e6 : μ3 25 6 = μ 25 6) : InvD μ3 n q h w bs := by
  have a0 := e 0 (by decide)
  have a1 := e 1 (by decide)
  have a3 := e 3 (by decide)
  have a4 := e 4 (by decide)
  have a6 := e 6 (by decide)
  have a7 := e 7 (by decide)
  have a9 := e 9 (by decide)
  have a11 := e 11 (by decide)
  have a26 := e 26 (by decide)
  have a27 := e 27 (by decide)
  have a28 := e 28 (by decide)
  have a29 := e 29 (by decide)
  unfold InvD Mo CH MH at H ⊢
  rw [a0, a1, a3, a4, a6, a7, a9, a11, a26, a27, a28, a29, e2, e4, e6]
  exact H
theorem inv_q (H : InvD μ n q h w bs) (hs : same μ μ2 SC) {L : List Nat} (hk : kp μ2 μ3 L) (hL : ∀ k ∈ L, k ∈ MC) : Inv μ3 := by
  obtain ⟨⟨k2, k4, k6⟩, ks⟩ := hk
  have e25 := hs 25 (by decide)
  refine ⟨n, q, h, w, bs, inv_keep H (fun k hk => ?_) (by rw [k2, e25]) (by rw [k4, e25]) (by rw [k6, e25])⟩
  have h1 : k ∉ L := fun hz => by
    have := hL k hz
    simp only [List.mem_cons, List.not_mem_nil, or_false] at hk this
    omega
  have h2 : k ∉ SC := fun hz => by
    simp only [List.mem_cons, List.not_mem_nil, or_false] at hk hz
    omega
  rw [ks k h1, hs k h2]
theorem vS_rem (H : InvD μ n q h w bs) : ∀ t, t < remM q → vS (remH q h (stV (μ 1 0) (μ 1 1) (μ 3)) t) := by
  have hv : vS (stV (μ 1 0) (μ 1 1) (μ 3)) := ⟨n, μ 1 1, μ 3, H.2.1, fun k _ => by rw [H.1]⟩
  intro t ht
  unfold remM at ht
  unfold remH
  by_cases c : q = 6
  · rw [if_pos c] at ht ⊢
    by_cases d : t < 5
    · rw [if_pos d]; exact H.vs (t + 1) (by omega)
    · rw [if_neg d]; exact hv
  · rw [if_neg c] at ht ⊢
    by_cases d : t = q
    · rw [if_pos d]; exact hv
    · rw [if_neg d]; exact H.vs t (by omega)
/-- a modification: the class's part comes from μ1, the reference's stands in μ3 -/
theorem inv_mod {n' q' : Nat} {h' : Nat → Nat → Int32} {f : Nat → Int32} (H : InvD μ n q h w bs) (h1 : μ1 1 0 = nI n') (hT : TV n' (μ1 1 1) (μ1 3)) (hC : CH μ1 q' h') (hv : ∀ t, t < q' → vS (h' t)) (hs : same μ μ1 [1, 3, 7, 9]) (e2 : μ2 = mset μ1 33 f) (hMo : Mo μ3 n' (μ1 1 1) (μ1 3)) (hMH : MH μ3 q' h') (h4 : μ3 25 4 = μ2 25 4 ∧ μ3 25 6 = μ2 25 6) (hs3 : same μ2 μ3 [25, 26, 27]) : Inv μ3 := by
  have g : ∀ k, k ∉ [25, 26, 27, 33] → μ3 k = μ1 k := fun k hk => by
    rw [hs3 k (fun z => hk (by simp only [List.mem_cons, List.not_mem_nil, or_false] at z ⊢; omega)), e2, mset_ne _ _ (fun z => hk (by rw [z]; decide))]
  have e25 : μ2 25 = μ 25 := by rw [e2, mset_ne _ _ (by decide), hs 25 (by decide)]
  have a1 := g 1 (by decide)
  have a3 := g 3 (by decide)
  have a7 := g 7 (by decide)
  have a9 := g 9 (by decide)
  have a4 := (g 4 (by decide)).trans (hs 4 (by decide))
  have a6 := (g 6 (by decide)).trans (hs 6 (by decide))
  have a0 := (g 0 (by decide)).trans (hs 0 (by decide))
  have a11 := (g 11 (by decide)).trans (hs 11 (by decide))
  have a28 := (g 28 (by decide)).trans (hs 28 (by decide))
  have a29 := (g 29 (by decide)).trans (hs 29 (by decide))
  rw [e25] at h4
  refine ⟨n', q', h', w, bs, ?_⟩
  obtain ⟨-, -, -, -, -, -, t4, t6, tw, t29, s0, s4, sn⟩ := H
  refine ⟨by rw [a1]; exact h1, by rw [a1, a3]; exact hT, by rw [a1, a3]; exact hMo, ?_, hMH, hv, by rw [a4]; exact t4, by rw [h4.2]; exact t6, tw, by rw [a29, a6]; exact t29, by rw [a0]; exact s0, by rw [h4.1]; exact s4, by rw [a11, a28]; exact sn⟩
  unfold CH at hC ⊢
  rw [a7, a9]; exact hC
/-- how a call that may throw ends, with its helper's answer r5 and the reference's r6 -/
def TailOK (r5 r6 : Int32) (μ3 : Mem) : Prop := μ3 25 7 = r5 ∧ (r5 = 0 → μ3 33 0 = r6) ∧ Inv μ3
/-- what a helper says -/
def HC (μ μ2 : Mem) (r5 : Int32) (f : Int32 → Mem → Prop) (xc : String → Prop) (cd : String → Int32) : Prop := (r5 = 0 ∧ ∃ v μ1, f v μ1 ∧ μ2 = mset μ1 33 (upd (μ1 33) 0 v)) ∨ (∃ E, xc E ∧ r5 = cd E ∧ μ2 = μ)
theorem HC.cc {r5 : Int32} {f : Int32 → Mem → Prop} {xc : String → Prop} {cd : String → Int32} (hc : HC μ μ2 r5 f xc cd) (hf : ∀ v μ1, f v μ1 → same μ μ1 CC) : same μ μ2 CC := by
  rcases hc with ⟨-, v, μ1, h1, rfl⟩ | ⟨E, -, -, rfl⟩
  · exact (hf v μ1 h1).o33 (by decide)
  · exact same.rf
theorem o33 (μ1 : Mem) (v : Int32) : (mset μ1 33 (upd (μ1 33) 0 v)) 33 0 = v := by rw [mset_same]; unfold upd; rw [if_pos rfl]
theorem hasB_j {j : Nat} (hn : n ≤ 16) (hj : j < n) : hasB (nI n) (nI j) = true := by
  unfold hasB
  rw [decide_eq_false (nI_pos (by omega)), decide_eq_true (nI_lt hj (by omega))]; rfl
theorem dem1_E {c p0 : Int32} {E : String} (hx : dem1 c p0 = some E) : hasB c p0 = false ∧ E = eIOB := by
  unfold dem1 at hx
  by_cases c1 : hasB c p0 = true
  · rw [if_pos c1] at hx; cases hx
  · rw [if_neg c1] at hx; exact ⟨by simpa using c1, (Option.some.inj hx).symm⟩
theorem demK_E {k : Int32} {E : String} (hx : demK k = some E) : inR k 0 15 = false ∧ E = eIAE := by
  unfold demK at hx
  unfold inR
  by_cases c1 : k < 0
  · rw [if_pos c1] at hx; rw [decide_eq_true c1]; exact ⟨rfl, (Option.some.inj hx).symm⟩
  · rw [if_neg c1] at hx
    by_cases c2 : 15 < k
    · rw [if_pos c2] at hx; rw [decide_eq_true c2]; exact ⟨by simp, (Option.some.inj hx).symm⟩
    · rw [if_neg c2] at hx; cases hx
theorem inR_k {k : Nat} (hk : k ≤ 15) : inR (nI k) 0 15 = true := by
  unfold inR
  rw [decide_eq_false (nI_pos (by omega)), decide_eq_false (show ¬ (15 : Int32) < nI k from nI_nlt (a := 15) hk (by omega))]; rfl
theorem dem2_E {c p0 p1 : Int32} {E : String} (hx : dem2 c p0 p1 = some E) : (E = eIOB ∨ E = eIAE) ∧ ¬ cd2 c p0 p1 = 0 ∧ cd2 c p0 p1 = cd3h eIOB eIAE E := by
  unfold dem2 at hx
  unfold cd2
  by_cases c1 : hasB c p0 = true
  · rw [if_pos c1] at hx; rw [if_pos c1]
    by_cases c2 : hasB c p1 = true
    · rw [if_pos c2] at hx; rw [if_pos c2]
      by_cases c3 : p0 = p1
      · rw [if_pos c3] at hx; rw [if_pos c3]
        cases Option.some.inj hx
        exact ⟨Or.inr rfl, by decide, by decide +kernel⟩
      · rw [if_neg c3] at hx; cases hx
    · rw [if_neg c2] at hx; rw [if_neg c2]
      cases Option.some.inj hx
      exact ⟨Or.inl rfl, by decide, by decide +kernel⟩
  · rw [if_neg c1] at hx; rw [if_neg c1]
    cases Option.some.inj hx
    exact ⟨Or.inl rfl, by decide, by decide +kernel⟩
theorem demT_E {c p0 p1 : Int32} {th : Nat → Int32} {E : String} (hx : demT c th p0 p1 = some E) : (E = eIOB ∨ E = eNSE) ∧ ¬ cdT c th p0 p1 = 0 ∧ cdT c th p0 p1 = cd2h eIOB E := by
  unfold demT at hx
  unfold cdT
  by_cases c1 : hasB c p0 = true
  · rw [if_pos c1] at hx; rw [if_pos c1]
    by_cases c2 : hasB c p1 = true
    · rw [if_pos c2] at hx; rw [if_pos c2]
      by_cases c3 : bndB c th p0 p1 = true
      · rw [if_pos c3] at hx; cases hx
      · rw [if_neg c3] at hx; rw [if_neg c3]
        cases Option.some.inj hx
        exact ⟨Or.inr rfl, by decide, by decide +kernel⟩
    · rw [if_neg c2] at hx; rw [if_neg c2]
      cases Option.some.inj hx
      exact ⟨Or.inl rfl, by decide, by decide +kernel⟩
  · rw [if_neg c1] at hx; rw [if_neg c1]
    cases Option.some.inj hx
    exact ⟨Or.inl rfl, by decide, by decide +kernel⟩
theorem cd2_ok {i j : Nat} (hn : n ≤ 16) (hi : i < n) (hj : j < n) (hij : i ≠ j) : cd2 (nI n) (nI i) (nI j) = 0 := by
  unfold cd2
  rw [if_pos (hasB_j hn hi), if_pos (hasB_j hn hj), if_neg (fun e => hij (nI_inj3 (by omega) (by omega) e))]
theorem cdT_ok {i j : Nat} {pr : Int32} {th : Nat → Int32} (hT : TV n pr th) (hi : i < n) (hj : j < n) (hb : bt (th i) j = true) : cdT (nI n) th (nI i) (nI j) = 0 := by
  have hn := hT.1
  unfold cdT
  rw [if_pos (hasB_j hn hi), if_pos (hasB_j hn hj), if_pos (by rw [bndB_nI rfl hT (by omega) (by omega)]; exact hb)]
end IV
