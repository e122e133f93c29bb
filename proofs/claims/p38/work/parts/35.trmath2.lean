/-! ===== the rounds of trusses ===== -/
/-- the 256 numbers hold g for every thorn -/
def numT (th : Nat → Int32) (F : Nat → Int32) (g : Nat → Nat → Nat) : Prop := ∀ i j, i < 16 → bt (th i) j = true → F (i * 16 + j) = nI (g i j) ∧ g i j ≤ 15
def rdT (th : Nat → Int32) (n : Nat) (g : Nat → Nat → Nat) : Prop := ∀ i j, i < 16 → bt (th i) j = true → g i j = g j i ∧ trN th n i j ≤ g i j ∧ g i j ≤ 15
/-- in how many triangles of (i, j) both other thorns have a number of at least h -/
def tfN (th : Nat → Int32) (g : Nat → Nat → Nat) (i j h : Nat) (m : Nat) : Nat := fb_ct (fun t => bt (th i &&& th j) t && (decide (h ≤ g i t) && decide (h ≤ g j t))) m
def ghT (th : Nat → Int32) (g : Nat → Nat → Nat) (n i j : Nat) : Nat := topK (fun h => decide (h ≤ tfN th g i j h n)) (g i j)
def upg (g : Nat → Nat → Nat) (a b v : Nat) : Nat → Nat → Nat := fun i j => if (i = a ∧ j = b) ∨ (i = b ∧ j = a) then v else g i j
def up2 (F : Nat → Int32) (a b : Nat) (v : Int32) : Nat → Int32 := upd (upd F (a * 16 + b) v) (b * 16 + a) v
theorem up2_at {F : Nat → Int32} {a b i j : Nat} {v : Int32} (ha : a < 16) (hb : b < 16) (hi : i < 16) (hj : j < 16) : up2 F a b v (i * 16 + j) = if (i = a ∧ j = b) ∨ (i = b ∧ j = a) then v else F (i * 16 + j) := by
  unfold up2 upd
  by_cases h1 : i = b ∧ j = a
  · rw [if_pos (by omega), if_pos (Or.inr h1)]
  · by_cases h2 : i = a ∧ j = b
    · rw [if_neg (by omega), if_pos (by omega), if_pos (Or.inl h2)]
    · rw [if_neg (by omega), if_neg (by omega), if_neg (by omega)]
theorem edge_lt {th : Nat → Int32} {n i j : Nat} {pr : Int32} (hT : TV n pr th) (hi : i < 16) (hb : bt (th i) j = true) : i < n ∧ j < n ∧ i ≠ j ∧ j < 16 := by
  have h := hT.2.2.1 i j hi hb
  have := hT.1
  exact ⟨h.1, h.2.1, h.2.2, by omega⟩
theorem edge_sym {th : Nat → Int32} {n i j : Nat} {pr : Int32} (hT : TV n pr th) (hi : i < 16) (hb : bt (th i) j = true) : bt (th j) i = true := by
  rw [hT.2.2.2 j i (edge_lt hT hi hb).2.2.2 hi]; exact hb
theorem trN_sym {th : Nat → Int32} {n i j : Nat} {pr : Int32} (hT : TV n pr th) (hi : i < 16) (hj : j < 16) : trN th n i j = trN th n j i :=
  topK_cong fun k _ _ => (trE_is hT (k := k)).1.1.2.2.2 i j hi hj
theorem and_comm32 (x y : Int32) : x &&& y = y &&& x := b_ext fun i _ => by rw [b_and, b_and, Bool.and_comm]
theorem tfN_sym {th : Nat → Int32} {g : Nat → Nat → Nat} {i j h m : Nat} : tfN th g i j h m = tfN th g j i h m := fb_ct_cong fun t _ => by
  rw [and_comm32 (th i), Bool.and_comm (decide (h ≤ g i t))]
theorem ghT_sym {th : Nat → Int32} {n i j : Nat} {g : Nat → Nat → Nat} {pr : Int32} (hT : TV n pr th) (hI : rdT th n g) (hi : i < 16) (hb : bt (th i) j = true) : ghT th g n i j = ghT th g n j i := by
  unfold ghT
  rw [(hI i j hi hb).1]
  exact topK_cong fun k _ _ => by rw [tfN_sym]
theorem ct_n {x : Int32} {n : Nat} (hn : n ≤ 16) (h : ∀ i, n ≤ i → i < 16 → bt x i = false) : ct x = fb_ct (bt x) n := fb_ct_n hn h
theorem ghT_ge {th : Nat → Int32} {n i j : Nat} {g : Nat → Nat → Nat} {pr : Int32} (hT : TV n pr th) (hI : rdT th n g) (hi : i < 16) (hb : bt (th i) j = true) : trN th n i j ≤ ghT th g n i j := by
  obtain ⟨h1, h2, h3, hj⟩ := edge_lt hT hi hb
  refine topK_ge (hI i j hi hb).2.1 fun hk => ?_
  have h15 : trN th n i j ≤ 15 := topK_le _ _
  have hin : bt (trE th n (trN th n i j) i) j = true := (tr_iff hT hi hb h15).mpr (Nat.le_refl _)
  have hE := trE_is hT (k := trN th n i j)
  have hc := hE.2 i j hi hin
  rw [ct_n (n := n) hT.1 (fun t a b => by
    rw [b_and]
    cases hz : bt (trE th n (trN th n i j) i) t with
    | false => rfl
    | true => have := (edge_lt hE.1.1 hi hz).2.1; omega)] at hc
  have : fb_ct (bt (trE th n (trN th n i j) i &&& trE th n (trN th n i j) j)) n ≤ tfN th g i j (trN th n i j) n := fb_ct_sub fun t ht w => by
    rw [b_and, Bool.and_eq_true] at w
    have e1 := hE.1.2.1 i hi t w.1
    have e2 := hE.1.2.1 j hj t w.2
    have q1 := (tr_iff hT hi e1 h15).mp w.1
    have q2 := (tr_iff hT hj e2 h15).mp w.2
    have r1 := (hI i t hi e1).2.1
    have r2 := (hI j t hj e2).2.1
    rw [b_and, e1, e2]
    simp
    omega
  simp only [decide_eq_true_eq]
  omega
/-- all thorns hold what their triangles do: then the numbers are the truss numbers -/
theorem rdT_end {th : Nat → Int32} {n : Nat} {g : Nat → Nat → Nat} {pr : Int32} (hT : TV n pr th) (hI : rdT th n g) (hf : ∀ a b, a < 16 → bt (th a) b = true → ghT th g n a b = g a b) {i j : Nat} (hi : i < 16) (hb : bt (th i) j = true) : g i j = trN th n i j := by
  refine Nat.le_antisymm ?_ (hI i j hi hb).2.1
  have hn := hT.1
  have he : ∀ a b, a < 16 → (bt (mkN (fun b => bt (th a) b && decide (g i j ≤ g a b)) 16) b = true ↔ bt (th a) b = true ∧ g i j ≤ g a b) := fun a b ha => by
    rw [bt_mk _ 16 (by decide), Bool.and_eq_true, Bool.and_eq_true, decide_eq_true_eq, decide_eq_true_eq]
    constructor
    · exact fun h => h.2
    · exact fun h => ⟨(edge_lt hT ha h.1).2.2.2, h⟩
  refine (tr_iff hT hi hb (hI i j hi hb).2.2).mp ((trE_is hT).1.2.2 (fun a => mkN (fun b => bt (th a) b && decide (g i j ≤ g a b)) 16) ⟨hn, fun x hx => absurd hx (by rw [b_0]; decide), fun a b ha h => ?_, fun a b ha hb2 => ?_⟩ (fun a ha b h => ?_) (fun a b ha h => ?_) i hi j ?_)
  · obtain ⟨h1, -⟩ := (he a b ha).mp h
    obtain ⟨q1, q2, q3, -⟩ := edge_lt hT ha h1
    exact ⟨q1, q2, q3⟩
  · rw [Bool.eq_iff_iff, he a b ha, he b a hb2]
    constructor
    · intro h
      have := (hI a b ha h.1).1
      exact ⟨edge_sym hT ha h.1, by omega⟩
    · intro h
      have := (hI b a hb2 h.1).1
      exact ⟨edge_sym hT hb2 h.1, by omega⟩
  · exact ((he a b ha).mp h).1
  · obtain ⟨h1, h2⟩ := (he a b ha).mp h
    have hb16 := (edge_lt hT ha h1).2.2.2
    have e := hf a b ha h1
    rcases Nat.eq_zero_or_pos (g a b) with z | z
    · omega
    · have h3 : decide (g a b ≤ tfN th g a b (g a b) n) = true := by
        have := topK_yes (fun h => decide (h ≤ tfN th g a b h n)) (g a b) (by rw [show topK _ (g a b) = ghT th g n a b from rfl, e]; exact z)
        rw [show topK (fun h => decide (h ≤ tfN th g a b h n)) (g a b) = g a b from e] at this
        exact this
      rw [decide_eq_true_eq] at h3
      have h4 : tfN th g a b (g a b) n ≤ ct (mkN (fun c => bt (th a) c && decide (g i j ≤ g a c)) 16 &&& mkN (fun c => bt (th b) c && decide (g i j ≤ g b c)) 16) := by
        refine Nat.le_trans (fb_ct_step _ n (16 - n)) ?_
        rw [show n + (16 - n) = 16 by omega]
        exact fb_ct_sub fun t ht w => by
          simp only [Bool.and_eq_true, decide_eq_true_eq, b_and] at w
          rw [b_and, Bool.and_eq_true]
          exact ⟨(he a t ha).mpr ⟨w.1.1, by omega⟩, (he b t hb16).mpr ⟨w.1.2, by omega⟩⟩
      exact Nat.le_trans h2 (Nat.le_trans h3 h4)
  · exact (he i j hi).mpr ⟨hb, Nat.le_refl _⟩
/-- the sum of the numbers of all thorns, each once -/
def sT (th : Nat → Int32) (g : Nat → Nat → Nat) : Nat := fb_sm (fun a => fb_sm (fun b => if a < b ∧ bt (th a) b = true then g a b else 0) 16) 16
theorem sT_le {th : Nat → Int32} {g : Nat → Nat → Nat} (h : ∀ i j, i < 16 → bt (th i) j = true → g i j ≤ 15) : sT th g ≤ 1800 := by
  have e : fb_sm (fun a => fb_sm (fun b => if a < b then 15 else 0) 16) 16 = 1800 := by decide +kernel
  rw [← e]
  exact fb_sm_le fun a ha => fb_sm_le fun b hb => by
    by_cases q : a < b ∧ bt (th a) b = true
    · rw [if_pos q, if_pos q.1]; exact h a b ha q.2
    · rw [if_neg q]; exact Nat.zero_le _
theorem sT_up {th : Nat → Int32} {g : Nat → Nat → Nat} {i j v : Nat} (hi : i < 16) (hj : j < 16) (hij : i < j) (hb : bt (th i) j = true) : sT th (upg g i j v) + g i j = sT th g + v := by
  have e1 := fb_sm_upd (fun b => if i < b ∧ bt (th i) b = true then g i b else 0) v hj
  rw [if_pos ⟨hij, hb⟩] at e1
  have e2 := fb_sm_upd (fun a => fb_sm (fun b => if a < b ∧ bt (th a) b = true then g a b else 0) 16) (fb_sm (fun k => if k = j then v else if i < k ∧ bt (th i) k = true then g i k else 0) 16) hi
  have e3 : sT th (upg g i j v) = fb_sm (fun k => if k = i then fb_sm (fun k => if k = j then v else if i < k ∧ bt (th i) k = true then g i k else 0) 16 else fb_sm (fun b => if k < b ∧ bt (th k) b = true then g k b else 0) 16) 16 := fb_sm_cong fun a ha => by
    by_cases q : a = i
    · subst q
      rw [if_pos rfl]
      exact fb_sm_cong fun b _ => by
        unfold upg
        by_cases w : b = j
        · subst w; rw [if_pos ⟨hij, hb⟩, if_pos (Or.inl ⟨rfl, rfl⟩), if_pos rfl]
        · rw [if_neg w]
          by_cases z : a < b ∧ bt (th a) b = true
          · rw [if_pos z, if_pos z, if_neg (by omega)]
          · rw [if_neg z, if_neg z]
    · rw [if_neg q]
      exact fb_sm_cong fun b _ => by
        unfold upg
        by_cases z : a < b ∧ bt (th a) b = true
        · rw [if_pos z, if_pos z, if_neg (by omega)]
        · rw [if_neg z, if_neg z]
  rw [e3]
  unfold sT
  omega
/-- a pass on its way -/
def lwI (th : Nat → Int32) (n : Nat) (g0 : Nat → Nat → Nat) (F : Nat → Int32) (g : Nat → Nat → Nat) (r : Int32) (i j : Nat) : Prop := numT th F g ∧ rdT th n g ∧ ((r = 0 ∧ g = g0 ∧ ∀ a b, (a < i ∨ (a = i ∧ b < j)) → a < b → b < n → bt (th a) b = true → ghT th g0 n a b = g0 a b) ∨ (r = 1 ∧ sT th g < sT th g0))
theorem lw_01 {th : Nat → Int32} {n : Nat} {g0 g : Nat → Nat → Nat} {F : Nat → Int32} {r : Int32} {i j : Nat} (h : lwI th n g0 F g r i j) : r = 0 ∨ r = 1 := h.2.2.imp (fun h => h.1) (fun h => h.1)
theorem lw_skip {th : Nat → Int32} {n : Nat} {g0 g : Nat → Nat → Nat} {F : Nat → Int32} {r : Int32} {i j : Nat} (h : lwI th n g0 F g r i j) (hb : bt (th i) j = false) : lwI th n g0 F g r i (j + 1) :=
  ⟨h.1, h.2.1, h.2.2.imp (fun ⟨h1, h2, h3⟩ => ⟨h1, h2, fun a b hab h4 h5 h6 => by
    by_cases e : a = i ∧ b = j
    · rw [e.1, e.2, hb] at h6; cases h6
    · exact h3 a b (by omega) h4 h5 h6⟩) id⟩
theorem lw_row {th : Nat → Int32} {n : Nat} {g0 g : Nat → Nat → Nat} {F : Nat → Int32} {r : Int32} {i : Nat} (h : lwI th n g0 F g r i n) : lwI th n g0 F g r (i + 1) (i + 1 + 1) :=
  ⟨h.1, h.2.1, h.2.2.imp (fun ⟨h1, h2, h3⟩ => ⟨h1, h2, fun a b hab h4 h5 h6 => h3 a b (by omega) h4 h5 h6⟩) id⟩
theorem gh_15 {th : Nat → Int32} {n i j : Nat} {g : Nat → Nat → Nat} {F : Nat → Int32} (h : numT th F g) (hi : i < 16) (hb : bt (th i) j = true) : ghT th g n i j ≤ 15 := Nat.le_trans (topK_le _ _) (h i j hi hb).2
theorem numT_up {th : Nat → Int32} {n i j v : Nat} {g : Nat → Nat → Nat} {F : Nat → Int32} {pr : Int32} (hT : TV n pr th) (h : numT th F g) (hi : i < 16) (hj : j < 16) (hv : v ≤ 15) : numT th (up2 F i j (nI v)) (upg g i j v) := fun a b ha hb => by
  rw [up2_at hi hj ha (edge_lt hT ha hb).2.2.2]
  unfold upg
  split
  · exact ⟨rfl, hv⟩
  · exact h a b ha hb
theorem rdT_up {th : Nat → Int32} {n i j v : Nat} {g : Nat → Nat → Nat} {pr : Int32} (hT : TV n pr th) (h : rdT th n g) (hi : i < 16) (hj : j < 16) (hv : v ≤ 15) (hl : trN th n i j ≤ v) : rdT th n (upg g i j v) := fun a b ha hb => by
  unfold upg
  have hb16 := (edge_lt hT ha hb).2.2.2
  by_cases q : (a = i ∧ b = j) ∨ (a = j ∧ b = i)
  · rw [if_pos q, if_pos (by omega)]
    refine ⟨rfl, ?_, hv⟩
    rcases q with ⟨q1, q2⟩ | ⟨q1, q2⟩
    · rw [q1, q2]; exact hl
    · rw [q1, q2, trN_sym hT hj hi]; exact hl
  · rw [if_neg q, if_neg (by omega)]
    exact h a b ha hb
theorem numT_same {th : Nat → Int32} {n i j : Nat} {g : Nat → Nat → Nat} {F : Nat → Int32} {pr : Int32} (hT : TV n pr th) (h : numT th F g) (hI : rdT th n g) (hi : i < 16) (hb : bt (th i) j = true) : numT th (up2 F i j (nI (g i j))) g := fun a b ha hb2 => by
  have hj := (edge_lt hT hi hb).2.2.2
  rw [up2_at hi hj ha (edge_lt hT ha hb2).2.2.2]
  split
  · next q =>
    rcases q with ⟨q1, q2⟩ | ⟨q1, q2⟩
    · rw [q1, q2]; exact ⟨rfl, (hI i j hi hb).2.2⟩
    · rw [q1, q2, ← (hI i j hi hb).1]; exact ⟨rfl, (hI i j hi hb).2.2⟩
  · exact h a b ha hb2
theorem lw_same {th : Nat → Int32} {n : Nat} {g0 g : Nat → Nat → Nat} {F : Nat → Int32} {i j : Nat} {pr : Int32} (hT : TV n pr th) (h : lwI th n g0 F g 0 i j) (hi : i < 16) (hb : bt (th i) j = true) (hv : ghT th g n i j = g i j) : lwI th n g0 (up2 F i j (nI (ghT th g n i j))) g 0 i (j + 1) := by
  refine ⟨by rw [hv]; exact numT_same hT h.1 h.2.1 hi hb, h.2.1, Or.inl ?_⟩
  rcases h.2.2 with ⟨h1, h2, h3⟩ | ⟨h1, -⟩
  · refine ⟨h1, h2, fun a b hab h4 h5 h6 => ?_⟩
    by_cases e : a = i ∧ b = j
    · rw [e.1, e.2, ← h2]; exact hv
    · exact h3 a b (by omega) h4 h5 h6
  · exact absurd h1 (by decide)
theorem lw_less {th : Nat → Int32} {n : Nat} {g0 g : Nat → Nat → Nat} {F : Nat → Int32} {r : Int32} {i j : Nat} {pr : Int32} (hT : TV n pr th) (h : lwI th n g0 F g r i j) (hi : i < 16) (hij : i < j) (hb : bt (th i) j = true) (hv : r = 1 ∨ ghT th g n i j ≠ g i j) : lwI th n g0 (up2 F i j (nI (ghT th g n i j))) (upg g i j (ghT th g n i j)) 1 i (j + 1) := by
  have hj := (edge_lt hT hi hb).2.2.2
  have h15 : ghT th g n i j ≤ 15 := gh_15 h.1 hi hb
  have hle : ghT th g n i j ≤ g i j := topK_le _ _
  have hu := sT_up (v := ghT th g n i j) (g := g) hi hj hij hb
  refine ⟨numT_up hT h.1 hi hj h15, rdT_up hT h.2.1 hi hj h15 (ghT_ge hT h.2.1 hi hb), Or.inr ⟨rfl, ?_⟩⟩
  rcases h.2.2 with ⟨h1, h2, -⟩ | ⟨-, h2⟩
  · rcases hv with q | q
    · rw [h1] at q; exact absurd q (by decide)
    · rw [← h2]; omega
  · omega
theorem lw_end {th : Nat → Int32} {n : Nat} {g0 g : Nat → Nat → Nat} {F : Nat → Int32} {r : Int32} {j : Nat} {pr : Int32} (hT : TV n pr th) (h : lwI th n g0 F g r n j) : numT th F g ∧ rdT th n g ∧ ((r = 0 ∧ g = g0 ∧ ∀ a b, a < 16 → bt (th a) b = true → ghT th g0 n a b = g0 a b) ∨ (r = 1 ∧ sT th g < sT th g0)) := by
  refine ⟨h.1, h.2.1, h.2.2.imp (fun ⟨h1, h2, h3⟩ => ⟨h1, h2, fun a b ha hb => ?_⟩) id⟩
  obtain ⟨q1, q2, q3, q4⟩ := edge_lt hT ha hb
  rcases Nat.lt_or_ge a b with w | w
  · exact h3 a b (by omega) w q2 hb
  · have hI : rdT th n g0 := h2 ▸ h.2.1
    rw [ghT_sym hT hI ha hb, (hI a b ha hb).1]
    exact h3 b a (by omega) (by omega) q1 (edge_sym hT ha hb)
/-- the numbers with which they begin -/
def g0T (th : Nat → Int32) : Nat → Nat → Nat := fun i j => ct (th i &&& th j)
theorem rdT_0 {th : Nat → Int32} {n : Nat} {pr : Int32} (hT : TV n pr th) : rdT th n (g0T th) := fun i j hi hb => by
  have hj := (edge_lt hT hi hb).2.2.2
  have h15 : trN th n i j ≤ 15 := topK_le _ _
  refine ⟨by unfold g0T; rw [and_comm32], ?_, Nat.le_trans (ct_sub fun t _ w => by rw [b_and, Bool.and_eq_true] at w; exact w.1) (ct_th hT hi)⟩
  have hE := trE_is hT (k := trN th n i j)
  refine Nat.le_trans (hE.2 i j hi ((tr_iff hT hi hb h15).mpr (Nat.le_refl _))) (ct_sub fun t _ w => ?_)
  rw [b_and, Bool.and_eq_true] at w ⊢
  exact ⟨hE.1.2.1 i hi t w.1, hE.1.2.1 j hj t w.2⟩
/-- the first pass: what is laid so far -/
def lay0 (th : Nat → Int32) (n : Nat) (F : Nat → Int32) (i j : Nat) : Prop := ∀ a b, (a < i ∨ (a = i ∧ b < j)) → a < b → b < n → bt (th a) b = true → F (a * 16 + b) = nI (g0T th a b) ∧ F (b * 16 + a) = nI (g0T th a b)
theorem lay_skip {th : Nat → Int32} {n : Nat} {F : Nat → Int32} {i j : Nat} (h : lay0 th n F i j) (hb : bt (th i) j = false) : lay0 th n F i (j + 1) := fun a b hab h4 h5 h6 => by
  by_cases e : a = i ∧ b = j
  · rw [e.1, e.2, hb] at h6; cases h6
  · exact h a b (by omega) h4 h5 h6
theorem lay_put {th : Nat → Int32} {n : Nat} {F : Nat → Int32} {i j : Nat} (hn : n ≤ 16) (h : lay0 th n F i j) (hi : i < 16) (hj : j < 16) (hij : i < j) : lay0 th n (up2 F i j (nI (g0T th i j))) i (j + 1) := fun a b hab h4 h5 h6 => by
  rw [up2_at hi hj (by omega) (by omega), up2_at hi hj (by omega) (by omega)]
  by_cases e : a = i ∧ b = j
  · rw [if_pos (Or.inl e), if_pos (Or.inr ⟨e.2, e.1⟩), e.1, e.2]; exact ⟨rfl, rfl⟩
  · rw [if_neg (by omega), if_neg (by omega)]
    exact h a b (by omega) h4 h5 h6
theorem lay_row {th : Nat → Int32} {n : Nat} {F : Nat → Int32} {i : Nat} (h : lay0 th n F i n) : lay0 th n F (i + 1) (i + 1 + 1) := fun a b hab h4 h5 h6 => h a b (by omega) h4 h5 h6
theorem lay_end {th : Nat → Int32} {n : Nat} {F : Nat → Int32} {j : Nat} {pr : Int32} (hT : TV n pr th) (h : lay0 th n F n j) : numT th F (g0T th) := fun a b ha hb => by
  obtain ⟨q1, q2, q3, q4⟩ := edge_lt hT ha hb
  refine ⟨?_, (rdT_0 hT a b ha hb).2.2⟩
  rcases Nat.lt_or_ge a b with w | w
  · exact (h a b (by omega) w q2 hb).1
  · rw [(rdT_0 hT a b ha hb).1]
    exact (h b a (by omega) (by omega) q1 (edge_sym hT ha hb)).2
theorem min_lt {a b h : Nat} (ha : a ≤ 15) (hb : b ≤ 15) (hh : h ≤ 15) : ((if nI b < nI a then nI b else nI a) < nI h) ↔ ¬ (h ≤ a ∧ h ≤ b) := by
  by_cases q : nI b < nI a
  · rw [if_pos q, nI_ltI (by omega) (by omega)]
    rw [nI_ltI (by omega) (by omega)] at q
    omega
  · rw [if_neg q, nI_ltI (by omega) (by omega)]
    rw [nI_ltI (by omega) (by omega)] at q
    omega
