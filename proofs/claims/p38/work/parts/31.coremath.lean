/-! ===== k-cores: what coreI is, and that the rounds find the same ===== -/
def sub (A B : Int32) : Prop := ∀ i, bt A i = true → bt B i = true
def clS (th : Nat → Int32) (pr : Int32) (k : Nat) (S : Int32) : Prop := ∀ i, i < 16 → bt S i = true → bt pr i = true ∨ k ≤ ct (th i &&& S)
theorem sub_lt {A : Int32} (h : sm A) {i : Nat} (hb : bt A i = true) : i < 16 := by
  rcases Nat.lt_or_ge i 16 with q | q
  · exact q
  · rw [h i q] at hb; cases hb
theorem sub_anti {A B : Int32} (h1 : sub A B) (h2 : sub B A) : A = B := b_ext (fun i _ => by
  cases ha : bt A i with
  | true => exact (h1 i ha).symm
  | false =>
    cases hb : bt B i with
    | false => rfl
    | true => rw [h2 i hb] at ha; cases ha)
theorem ct_and_sub {x A B : Int32} (h : sub A B) : ct (x &&& A) ≤ ct (x &&& B) := ct_sub (fun i _ hi => by
  rw [b_and, Bool.and_eq_true] at hi ⊢
  exact ⟨hi.1, h i hi.2⟩)
theorem bt_hold {th : Nat → Int32} {k : Nat} {pr L : Int32} (i : Nat) : bt (holdI th k pr L) i = ((bt L i && bt pr i) || (decide (i < 16) && (bt L i && decide (k ≤ ct (th i &&& L))))) := by
  rw [holdI, bt_acc _ _ _ (by decide), b_and]; rfl
theorem hold_sub {th : Nat → Int32} {k : Nat} {pr L : Int32} : sub (holdI th k pr L) L := fun i h => by
  rw [bt_hold] at h
  cases hL : bt L i with
  | true => rfl
  | false => rw [hL] at h; simp at h
theorem hold_keep {th : Nat → Int32} {k : Nat} {pr L S : Int32} (hS : sm S) (h : sub S L) (hc : clS th pr k S) : sub S (holdI th k pr L) := fun i hi => by
  have h16 := sub_lt hS hi
  rw [bt_hold, h i hi]
  rcases hc i h16 hi with q | q
  · simp [q]
  · have := ct_and_sub (x := th i) h
    simp [h16, show k ≤ ct (th i &&& L) by omega]
theorem fb_ct_lt {p q : Nat → Bool} : ∀ {n i : Nat}, (∀ k, k < n → p k = true → q k = true) → i < n → q i = true → p i = false → fb_ct p n < fb_ct q n
  | 0, i, _, h, _, _ => absurd h (Nat.not_lt_zero _)
  | n + 1, i, hs, hi, hq, hp => by
    rw [fb_ct_succ, fb_ct_succ]
    by_cases e : i = n
    · subst e
      have := fb_ct_sub (p := p) (q := q) (n := i) (fun k a b => hs k (by omega) b)
      rw [hq, hp]; simp; omega
    · have ih := fb_ct_lt (p := p) (q := q) (n := n) (i := i) (fun k a b => hs k (by omega) b) (by omega) hq hp
      cases ha : p n with
      | true => rw [hs n (by omega) ha]; simp; omega
      | false => simp; omega
theorem ct_lt {A B : Int32} (hB : sm B) (h : sub A B) (hne : A ≠ B) : ct A < ct B := by
  have : ∃ i, i < 16 ∧ bt B i = true ∧ bt A i = false := by
    refine Classical.byContradiction fun hn => hne (sub_anti h fun i hi => ?_)
    cases ha : bt A i with
    | true => rfl
    | false => exact absurd ⟨i, sub_lt hB hi, hi, ha⟩ hn
  obtain ⟨i, h1, h2, h3⟩ := this
  exact fb_ct_lt (fun k _ => h k) h1 h2 h3
theorem itr_sub {th : Nat → Int32} {k : Nat} {pr L : Int32} : ∀ i, sub (itr (holdI th k pr) i L) L
  | 0 => fun _ h => h
  | i + 1 => fun j h => itr_sub i j (hold_sub j h)
theorem core_fix {th : Nat → Int32} {k : Nat} {pr L : Int32} (hL : sm L) : holdI th k pr (coreI th pr k L) = coreI th pr k L := by
  have : ∃ i, i ≤ 16 ∧ holdI th k pr (itr (holdI th k pr) i L) = itr (holdI th k pr) i L := by
    refine Classical.byContradiction fun hn => ?_
    have key : ∀ i, i ≤ 17 → ct (itr (holdI th k pr) i L) + i ≤ ct L := by
      intro i
      induction i with
      | zero => intro _; exact Nat.le_refl _
      | succ i ih =>
        intro h
        have h1 := ih (by omega)
        have h2 : ct (itr (holdI th k pr) (i + 1) L) < ct (itr (holdI th k pr) i L) := ct_lt (sm_itr hL i) hold_sub (fun e => hn ⟨i, by omega, e⟩)
        omega
    have := key 17 (Nat.le_refl _)
    have := ct_le L
    omega
  obtain ⟨i, h1, h2⟩ := this
  have := itr_fix (f := holdI th k pr) (x := L) (i := i) h2 17 (by omega)
  rw [coreI, this, h2]
theorem core_sub {th : Nat → Int32} {k : Nat} {pr L : Int32} : sub (coreI th pr k L) L := itr_sub 17
theorem core_cl {th : Nat → Int32} {k : Nat} {pr L : Int32} (hL : sm L) : clS th pr k (coreI th pr k L) := fun i hi hb => by
  have h := hb
  rw [← core_fix hL, bt_hold] at h
  rw [hb] at h
  simp only [Bool.true_and, Bool.or_eq_true, Bool.and_eq_true, decide_eq_true_eq] at h
  rcases h with h | h
  · exact Or.inl h
  · exact Or.inr h.2
theorem core_max {th : Nat → Int32} {k : Nat} {pr L S : Int32} (hS : sm S) (h : sub S L) (hc : clS th pr k S) : sub S (coreI th pr k L) := by
  have : ∀ i, sub S (itr (holdI th k pr) i L) := by
    intro i
    induction i with
    | zero => exact h
    | succ i ih => exact hold_keep hS ih hc
  exact this 17
/-- what coreI is, and nothing else is -/
theorem core_eq {th : Nat → Int32} {k : Nat} {pr L C : Int32} (hL : sm L) (hC : sm C) (h1 : sub C L) (h2 : clS th pr k C) (h3 : ∀ S, sm S → sub S L → clS th pr k S → sub S C) : C = coreI th pr k L :=
  sub_anti (core_max hC h1 h2) (h3 _ (sm_core hL) core_sub (core_cl hL))
theorem cl_mono {th : Nat → Int32} {pr S : Int32} {a b : Nat} (h : a ≤ b) (hc : clS th pr b S) : clS th pr a S := fun i hi hb => (hc i hi hb).imp id (Nat.le_trans h)
theorem core_mono {th : Nat → Int32} {pr L : Int32} {a b : Nat} (hL : sm L) (h : a ≤ b) : sub (coreI th pr b L) (coreI th pr a L) := core_max (sm_core hL) core_sub (cl_mono h (core_cl hL))
/-- in the k-core or not: by the core number -/
theorem core_iff {th : Nat → Int32} {pr : Int32} {n j k : Nat} (hn : n ≤ 16) (hj : j < n) (hk : k ≤ 15) : bt (coreI th pr k (allI n)) j = true ↔ k ≤ coreN th pr n j := by
  have hL := sm_all hn
  constructor
  · intro h
    rcases Nat.lt_or_ge (coreN th pr n j) k with q | q
    · have := topK_no (coreF th pr n j) 15 k q hk
      rw [coreF, h] at this
      cases this
    · exact q
  · intro h
    rcases Nat.eq_zero_or_pos (coreN th pr n j) with q | q
    · have : k = 0 := by omega
      subst this
      exact core_max hL (fun _ h => h) (fun _ _ _ => Or.inr (Nat.zero_le _)) j (by rw [bt_all hn]; simpa using hj)
    · exact core_mono hL h j (topK_yes (coreF th pr n j) 15 q)
theorem core_prop {th : Nat → Int32} {pr : Int32} {n j : Nat} (hT : TV n pr th) (hp : bt pr j = true) : coreN th pr n j = 15 := by
  have hn := hT.1
  have hj := hT.2.1 j hp
  have h : bt (coreI th pr 15 (allI n)) j = true := core_max hT.sp (fun i hi => by rw [bt_all hn]; simpa using hT.2.1 i hi) (fun i _ hb => Or.inl hb) j hp
  have := (core_iff hn hj (Nat.le_refl _)).mp h
  have := topK_le (coreF th pr n j) 15
  rw [coreN] at *
  omega
/-! the rounds -/
def updN (g : Nat → Nat) (i v : Nat) : Nat → Nat := fun k => if k = i then v else g k
def lowG (th : Nat → Int32) (pr : Int32) (n : Nat) (g : Nat → Nat) : Nat → Nat → Nat
  | 0 => g
  | i + 1 => if bt pr i = true then lowG th pr n g i else updN (lowG th pr n g i) i (ghN th (lowG th pr n g i) n i)
def lowC (th : Nat → Int32) (pr : Int32) (n : Nat) (g : Nat → Nat) : Nat → Bool
  | 0 => false
  | i + 1 => if bt pr i = true then lowC th pr n g i else (lowC th pr n g i || !decide (ghN th (lowG th pr n g i) n i = lowG th pr n g i i))
/-- a state of the rounds: never under the core numbers, propped ones at 15 -/
def rdI (th : Nat → Int32) (pr : Int32) (n : Nat) (g : Nat → Nat) : Prop := (∀ p, p < n → coreN th pr n p ≤ g p ∧ g p ≤ 15) ∧ ∀ p, p < n → bt pr p = true → g p = 15
theorem fb_ct_n {p : Nat → Bool} {n m : Nat} (h : n ≤ m) (ho : ∀ k, n ≤ k → k < m → p k = false) : fb_ct p m = fb_ct p n := by
  induction m with
  | zero => rw [show n = 0 by omega]
  | succ m ih =>
    rcases Nat.lt_or_ge m n with q | q
    · rw [show n = m + 1 by omega]
    · rw [fb_ct_succ, ho m q (by omega), ih q (fun k a b => ho k a (by omega))]; simp
/-- what counts the neighbors in a set: up to n is enough -/
theorem ct_nf {th : Nat → Int32} {pr : Int32} {n p : Nat} {S : Int32} (hT : TV n pr th) (hp : p < n) : ct (th p &&& S) = fb_ct (fun q => bt (th p) q && bt S q) n := by
  have hn := hT.1
  rw [ct, show bt (th p &&& S) = (fun q => bt (th p) q && bt S q) from funext fun q => b_and _ _ _]
  refine fb_ct_n hn fun k h1 h2 => ?_
  cases hb : bt (th p) k with
  | false => rfl
  | true => have := (hT.2.2.1 p k (by omega) hb).2.1; omega
theorem topK_ge {f : Nat → Bool} {n k : Nat} (hk : k ≤ n) (h : 0 < k → f k = true) : k ≤ topK f n := by
  rcases Nat.lt_or_ge (topK f n) k with q | q
  · have := topK_no f n k q hk
    rw [h (by omega)] at this
    cases this
  · exact q
theorem gh_ge {th : Nat → Int32} {pr : Int32} {n p : Nat} {g : Nat → Nat} (hT : TV n pr th) (hI : rdI th pr n g) (hp : p < n) (hu : bt pr p = false) : coreN th pr n p ≤ ghN th g n p := by
  have hn := hT.1
  refine topK_ge (hI.1 p hp).1 fun hk => ?_
  have h15 : coreN th pr n p ≤ 15 := topK_le _ _
  have hb : bt (coreI th pr (coreN th pr n p) (allI n)) p = true := (core_iff hn hp h15).mpr (Nat.le_refl _)
  have hc := core_cl (th := th) (pr := pr) (k := coreN th pr n p) (sm_all hn) p (by omega) hb
  rcases hc with hc | hc
  · rw [hu] at hc; cases hc
  · rw [ct_nf hT hp] at hc
    have : fb_ct (fun q => bt (th p) q && bt (coreI th pr (coreN th pr n p) (allI n)) q) n ≤ nfN th g p (coreN th pr n p) n := fb_ct_sub fun q hq h => by
      simp only [Bool.and_eq_true, decide_eq_true_eq] at h ⊢
      exact ⟨h.1, Nat.le_trans ((core_iff hn hq h15).mp h.2) (hI.1 q hq).1⟩
    simp only [decide_eq_true_eq]
    omega
theorem low_I {th : Nat → Int32} {pr : Int32} {n : Nat} {g : Nat → Nat} (hT : TV n pr th) (hI : rdI th pr n g) : ∀ i, i ≤ n → rdI th pr n (lowG th pr n g i)
  | 0, _ => hI
  | i + 1, h => by
    have ih := low_I hT hI i (by omega)
    rw [lowG]
    split
    · exact ih
    · next hu =>
      simp only [Bool.not_eq_true] at hu
      have hg := gh_ge hT ih (show i < n by omega) hu
      have hl : ghN th (lowG th pr n g i) n i ≤ lowG th pr n g i i := topK_le _ _
      refine ⟨fun p hp => ?_, fun p hp hb => ?_⟩
      · unfold updN
        split
        · next e => subst e; exact ⟨hg, Nat.le_trans hl (ih.1 p hp).2⟩
        · exact ih.1 p hp
      · unfold updN
        split
        · next e => subst e; rw [hu] at hb; cases hb
        · exact ih.2 p hp hb
theorem low_le {th : Nat → Int32} {pr : Int32} {n : Nat} {g : Nat → Nat} : ∀ i p, lowG th pr n g i p ≤ g p
  | 0, p => Nat.le_refl _
  | i + 1, p => by
    have ih := low_le (th := th) (pr := pr) (n := n) (g := g) i p
    rw [lowG]
    split
    · exact ih
    · unfold updN
      split
      · next e => subst e; exact Nat.le_trans (topK_le _ _) ih
      · exact ih
/-- nothing has changed: each number is what its neighbors hold -/
theorem low_same {th : Nat → Int32} {pr : Int32} {n : Nat} {g : Nat → Nat} : ∀ i, lowC th pr n g i = false → lowG th pr n g i = g ∧ ∀ p, p < i → bt pr p = false → ghN th g n p = g p
  | 0, _ => ⟨rfl, fun p h => absurd h (Nat.not_lt_zero _)⟩
  | i + 1, h => by
    rw [lowC] at h
    split at h
    · next hp =>
      obtain ⟨h1, h2⟩ := low_same i h
      refine ⟨by rw [lowG, if_pos hp]; exact h1, fun p hlt hu => ?_⟩
      by_cases e : p = i
      · subst e; rw [hp] at hu; cases hu
      · exact h2 p (by omega) hu
    · next hp =>
      simp only [Bool.or_eq_false_iff, Bool.not_eq_false', decide_eq_true_eq] at h
      obtain ⟨h1, h2⟩ := low_same i h.1
      rw [h1] at h
      refine ⟨?_, fun p hlt hu => ?_⟩
      · rw [lowG, if_neg hp, h1, h.2]
        funext k
        unfold updN
        split
        · next e => rw [e]
        · rfl
      · by_cases e : p = i
        · subst e; exact h.2
        · exact h2 p (by omega) hu
/-- something has changed: the sum is less -/
theorem low_less {th : Nat → Int32} {pr : Int32} {n : Nat} {g : Nat → Nat} : ∀ i, i ≤ n → lowC th pr n g i = true → fb_sm (lowG th pr n g i) n < fb_sm g n
  | 0, _, h => by cases h
  | i + 1, hi, h => by
    rw [lowC] at h
    split at h
    · next hp =>
      rw [lowG, if_pos hp]
      exact low_less i (by omega) h
    · next hp =>
      rw [lowG, if_neg hp]
      have hu := fb_sm_upd (lowG th pr n g i) (ghN th (lowG th pr n g i) n i) (show i < n by omega)
      have hl : ghN th (lowG th pr n g i) n i ≤ lowG th pr n g i i := topK_le _ _
      have hs : fb_sm (lowG th pr n g i) n ≤ fb_sm g n := fb_sm_le fun k _ => low_le i k
      show fb_sm (fun k => if k = i then ghN th (lowG th pr n g i) n i else lowG th pr n g i k) n < _
      simp only [Bool.or_eq_true, Bool.not_eq_true', decide_eq_false_iff_not] at h
      rcases h with h | h
      · have := low_less i (by omega) h
        omega
      · omega
/-- at the rounds' end the numbers are the core numbers -/
theorem rd_end {th : Nat → Int32} {pr : Int32} {n : Nat} {g : Nat → Nat} (hT : TV n pr th) (hI : rdI th pr n g) (hf : ∀ p, p < n → bt pr p = false → ghN th g n p = g p) {p : Nat} (hp : p < n) : g p = coreN th pr n p := by
  have hn := hT.1
  refine Nat.le_antisymm ?_ (hI.1 p hp).1
  have hb : ∀ q, bt (mkN (fun q => decide (g p ≤ g q)) n) q = (decide (q < n) && decide (g p ≤ g q)) := fun q => bt_mk _ n (by omega) q
  refine (core_iff hn hp (hI.1 p hp).2).mp (core_max (S := mkN (fun q => decide (g p ≤ g q)) n) (sm_mk _ hn) (fun q hq => ?_) (fun q _ hq => ?_) p ?_)
  · rw [hb, Bool.and_eq_true] at hq
    rw [bt_all hn]; exact hq.1
  · rw [hb, Bool.and_eq_true, decide_eq_true_eq, decide_eq_true_eq] at hq
    cases hu : bt pr q with
    | true => exact Or.inl rfl
    | false =>
      refine Or.inr ?_
      have h1 := hf q hq.1 hu
      rcases Nat.eq_zero_or_pos (g q) with z | z
      · omega
      · have h2 : decide (g q ≤ nfN th g q (g q) n) = true := by
          have := topK_yes (fun h => decide (h ≤ nfN th g q h n)) (g q) (by rw [show topK _ (g q) = ghN th g n q from rfl, h1]; exact z)
          rw [show topK (fun h => decide (h ≤ nfN th g q h n)) (g q) = g q from h1] at this
          exact this
        rw [decide_eq_true_eq] at h2
        rw [ct_nf hT hq.1]
        have h3 : nfN th g q (g q) n ≤ fb_ct (fun r => bt (th q) r && bt (mkN (fun q => decide (g p ≤ g q)) n) r) n := fb_ct_sub fun r hr h => by
          simp only [Bool.and_eq_true, decide_eq_true_eq] at h
          rw [hb]
          simp [h.1, hr]
          omega
        omega
  · rw [hb]; simp [hp]
/-- the numbers with which the rounds begin -/
def g0N (th : Nat → Int32) (pr : Int32) : Nat → Nat := fun p => if bt pr p = true then 15 else ct (th p)
theorem ct_th {th : Nat → Int32} {pr : Int32} {n p : Nat} (hT : TV n pr th) (hp : p < 16) : ct (th p) ≤ 15 := by
  rcases Nat.lt_or_ge 15 (ct (th p)) with q | q
  · have := ct_le (th p)
    have e : fb_ct (bt (th p)) 16 = 16 := by show ct (th p) = 16; omega
    have h := fb_ct_all.mp e p hp
    exact absurd rfl (hT.2.2.1 p p hp h).2.2
  · exact q
theorem rd_0 {th : Nat → Int32} {pr : Int32} {n : Nat} (hT : TV n pr th) : rdI th pr n (g0N th pr) := by
  have hn := hT.1
  refine ⟨fun p hp => ?_, fun p hp hb => by simp [g0N, hb]⟩
  have h15 : coreN th pr n p ≤ 15 := topK_le _ _
  unfold g0N
  split
  · exact ⟨h15, Nat.le_refl _⟩
  · next hu =>
    refine ⟨?_, ct_th hT (by omega)⟩
    rcases core_cl (th := th) (pr := pr) (k := coreN th pr n p) (sm_all hn) p (by omega) ((core_iff hn hp h15).mpr (Nat.le_refl _)) with h | h
    · exact absurd h hu
    · exact Nat.le_trans h (ct_sub fun i _ hi => by rw [b_and, Bool.and_eq_true] at hi; exact hi.1)
theorem sum_0 {th : Nat → Int32} {pr : Int32} {n : Nat} (hT : TV n pr th) : fb_sm (g0N th pr) n ≤ 240 := by
  have h := fb_sm_bound (f := g0N th pr) (c := 15) (n := n) (fun k hk => ((rd_0 hT).1 k hk).2)
  have := hT.1
  omega
