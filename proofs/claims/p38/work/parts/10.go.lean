/-! ===== my layer: the graph of the cells is fixed (25 cells, at the addresses ad 0 .. ad 24), what changes is numbers alone: Mem ===== -/
abbrev Mem : Type := Nat → Nat → Int32
def mset (μ : Mem) (k : Nat) (f : Nat → Int32) : Mem := fun j => if j = k then f else μ j
theorem mset_same (μ : Mem) (k : Nat) (f : Nat → Int32) : mset μ k f k = f := by simp [mset]
theorem mset_ne (μ : Mem) {k j : Nat} (f : Nat → Int32) (h : j ≠ k) : mset μ k f j = μ j := by simp [mset, h]
def shp (ad : Nat → Nat) (cI cL : ClassId) (k : Nat) (f : Nat → Int32) : va_E := match k with
  | 0 => .inr (7, [.ref (ad 1), .ref (ad 4), .ref (ad 7), .ref (ad 10), .int (f 4), .ref (ad 12), .ref (ad 15), .ref (ad 20)])
  | 1 => .inr (5, [.int (f 0), .int (f 1), .ref (ad 2)])
  | 2 => .inr (3, [.ref (ad 3)])
  | 3 => .inl (cI, 16, .inl f)
  | 4 => .inr (4, [.ref (ad 5), .int (f 1)])
  | 5 => .inr (3, [.ref (ad 6)])
  | 6 => .inl (cI, 60, .inl f)
  | 7 => .inr (2, [.ref (ad 8), .int (f 1), .int (f 2)])
  | 8 => .inr (3, [.ref (ad 9)])
  | 9 => .inl (cI, 108, .inl f)
  | 10 => .inr (3, [.ref (ad 11)])
  | 11 => .inl (cI, 18, .inl f)
  | 12 => .inr (0, [.ref (ad 1), .ref (ad 13)])
  | 13 => .inr (3, [.ref (ad 14)])
  | 14 => .inl (cI, 16, .inl f)
  | 15 => .inr (6, [.ref (ad 1), .ref (ad 16), .ref (ad 18)])
  | 16 => .inr (3, [.ref (ad 17)])
  | 17 => .inl (cI, 16, .inl f)
  | 18 => .inr (3, [.ref (ad 19)])
  | 19 => .inl (cI, 256, .inl f)
  | 20 => .inr (1, [.ref (ad 1), .ref (ad 21), .ref (ad 23)])
  | 21 => .inr (3, [.ref (ad 22)])
  | 22 => .inl (cI, 16, .inl f)
  | 23 => .inr (3, [.ref (ad 24)])
  | 24 => .inl (cI, 16, .inl f)
  | _ => .inl (cI, 0, .inl f)
def wd (ad : Nat → Nat) (cI cL : ClassId) (μ : Mem) : va_W := (List.range 25).map (fun k => (ad k, shp ad cI cL k (μ k)))
theorem wd_get (ad : Nat → Nat) (cI cL : ClassId) (μ : Mem) {k : Nat} (h : k < 25) : (wd ad cI cL μ)[k]? = some (ad k, shp ad cI cL k (μ k)) := by
  simp [wd, List.getElem?_map, List.getElem?_range h]
theorem wd_some {ad : Nat → Nat} {cI cL : ClassId} {μ : Mem} {i : Nat} {q : Nat × va_E} (h : (wd ad cI cL μ)[i]? = some q) : i < 25 ∧ q = (ad i, shp ad cI cL i (μ i)) := by
  by_cases hi : i < 25
  · rw [wd_get ad cI cL μ hi] at h
    exact ⟨hi, (Option.some.inj h).symm⟩
  · rw [List.getElem?_eq_none (by simp [wd]; omega)] at h
    cases h
theorem wd_set (ad : Nat → Nat) (cI cL : ClassId) (μ : Mem) {k : Nat} (h : k < 25) (f : Nat → Int32) : (wd ad cI cL μ).set k (ad k, shp ad cI cL k f) = wd ad cI cL (mset μ k f) := by
  apply List.ext_getElem?
  intro i
  have hlen : (wd ad cI cL μ).length = 25 := by simp [wd]
  by_cases hik : i = k
  · subst hik
    rw [List.getElem?_set_self (by omega), wd_get _ _ _ _ h, mset_same]
  · rw [List.getElem?_set_ne (Ne.symm hik)]
    by_cases hi : i < 25
    · rw [wd_get _ _ _ _ hi, wd_get _ _ _ _ hi, mset_ne _ _ hik]
    · rw [List.getElem?_eq_none (by omega), List.getElem?_eq_none (by simp [wd]; omega)]
def adOK (ad : Nat → Nat) : Prop := ∀ i j : Nat, i < 25 → j < 25 → ad i = ad j → i = j
/-- the cells of the world -/
def AW (ad : Nat → Nat) : Nat → Prop := fun q => ∃ k, k < 25 ∧ q = ad k
theorem wd_D {A : Nat → Prop} {ad : Nat → Nat} (cI cL : ClassId) (μ : Mem) (h : adOK ad) (hA : ∀ q, AW ad q → A q) : va_D A (wd ad cI cL μ) := by
  refine ⟨fun i j p q hp hq e => ?_, fun k q hk => ?_⟩
  · obtain ⟨hi, rfl⟩ := wd_some hp
    obtain ⟨hj, rfl⟩ := wd_some hq
    exact h i j hi hj e
  · obtain ⟨hi, rfl⟩ := wd_some hk
    exact hA _ ⟨k, hi, rfl⟩

/-- the links between nest mates -/
def nestF : List (String × Nat × String × String × String × String) := [("ThornCores", 83, "ThornCores$Thicket", "count", "I", "ThornCores"), ("ThornCores", 193, "ThornCores$Thicket", "props", "I", "ThornCores"), ("ThornCores$Cores", 48, "ThornCores$Thicket", "props", "I", "ThornCores"), ("ThornCores$Cores", 55, "ThornCores$Thicket", "count", "I", "ThornCores"), ("ThornCores$Falling", 30, "ThornCores$Thicket", "count", "I", "ThornCores"), ("ThornCores$Falling", 63, "ThornCores$Thicket", "props", "I", "ThornCores"), ("ThornCores$Trusses", 57, "ThornCores$Thicket", "count", "I", "ThornCores")]
def nestM : List (String × Nat × MethodName × String) := [("ThornCores", 9, ⟨"ThornCores$Thicket", "<init>", "()V"⟩, "ThornCores"), ("ThornCores", 18, ⟨"ThornCores$Text", "<init>", "()V"⟩, "ThornCores"), ("ThornCores", 25, ⟨"ThornCores$History", "<init>", "()V"⟩, "ThornCores"), ("ThornCores$Cores", 28, ⟨"ThornCores", "in", "(II)Z"⟩, "ThornCores"), ("ThornCores$Cores", 38, ⟨"ThornCores", "bits", "(I)I"⟩, "ThornCores"), ("ThornCores$Cores", 41, ⟨"ThornCores", "bit", "(I)I"⟩, "ThornCores"), ("ThornCores$Falling", 60, ⟨"ThornCores", "bit", "(I)I"⟩, "ThornCores"), ("ThornCores$Falling", 69, ⟨"ThornCores", "bits", "(I)I"⟩, "ThornCores"), ("ThornCores$Falling", 72, ⟨"ThornCores", "in", "(II)Z"⟩, "ThornCores"), ("ThornCores$Thicket", 27, ⟨"ThornCores", "bit", "(I)I"⟩, "ThornCores"), ("ThornCores$Thicket", 34, ⟨"ThornCores", "bits", "(I)I"⟩, "ThornCores"), ("ThornCores$Thicket", 41, ⟨"ThornCores", "in", "(II)Z"⟩, "ThornCores"), ("ThornCores$Trusses", 37, ⟨"ThornCores", "bits", "(I)I"⟩, "ThornCores"), ("ThornCores$Trusses", 40, ⟨"ThornCores", "in", "(II)Z"⟩, "ThornCores"), ("ThornCores$Trusses", 61, ⟨"ThornCores", "bit", "(I)I"⟩, "ThornCores")]
def Nst (U : State) : Prop := (∀ q ∈ nestF, va_Nw (.fieldLinkNest q.1 q.2.1 q.2.2.1 q.2.2.2.1 q.2.2.2.2.1 q.2.2.2.2.2) U) ∧ ∀ q ∈ nestM, va_Nw (.methodLinkNest q.1 q.2.1 q.2.2.1 q.2.2.2) U
theorem Nst.warm {s U : State} (hW : s.WarmedH U.vm) (h : Nst s) : Nst U := ⟨fun q hq => va_Nw.warmF hW (h.1 q hq), fun q hq => va_Nw.warmM hW (h.2 q hq)⟩
theorem Nst.same {s U : State} (hv : s.vm = U.vm) (h : Nst s) : Nst U := ⟨fun q hq => va_tabs rfl hv (h.1 q hq), fun q hq => va_tabs rfl hv (h.2 q hq)⟩
/-- what a method finds: the world, the tables' part, the nest -/
def PreW (D : va_G) (ad : Nat → Nat) (cI cL : ClassId) (μ : Mem) (U : State) : Prop := va_P D vwCl (wd ad cI cL μ) U.heap ∧ va_K D vwCl [(cI, .int)] U ∧ Nst U
theorem PreW.calling {D : va_G} {ad : Nat → Nat} {cI cL : ClassId} {μ : Mem} {a : Array Value} {U : State} {g : JFrame} {mk : MethodId} (h : PreW D ad cI cL μ U) : PreW D ad cI cL μ (U.calling g mk a) :=
  ⟨h.1, va_K.moved (u := U) (U := U.calling g mk a) (Vm.Alike.refl U.vm) h.2.1, Nst.same (U := U.calling g mk a) rfl h.2.2⟩
/-- locals: one place a value of one slot, or nothing known -/
def lh (ls : Array Slot) (nL : Nat) (lv : List (Option Value)) : Prop := ls.size = nL ∧ lv_wf ls ∧ lv.length = nL ∧ ∀ (i : Nat) (v : Value), lv[i]? = some (some v) → ls[i]? = some (.val v) ∧ v.category = 1
def lcv : Nat → List (Option Value) → List (Nat × Value)
  | _, [] => []
  | i, none :: t => lcv (i + 1) t
  | i, some v :: t => (i, v) :: lcv (i + 1) t
theorem lcv_mem : ∀ (t : List (Option Value)) (i j : Nat) (v : Value), (j, v) ∈ lcv i t ↔ ∃ k, j = i + k ∧ t[k]? = some (some v)
  | [], i, j, v => by simp [lcv]
  | none :: t, i, j, v => by
    rw [lcv, lcv_mem t (i + 1) j v]
    constructor
    · rintro ⟨k, h1, h2⟩
      exact ⟨k + 1, by omega, by simpa using h2⟩
    · rintro ⟨k, h1, h2⟩
      cases k with
      | zero => simp at h2
      | succ k => exact ⟨k, by omega, by simpa using h2⟩
  | some w :: t, i, j, v => by
    rw [lcv, List.mem_cons, lcv_mem t (i + 1) j v]
    constructor
    · rintro (h | ⟨k, h1, h2⟩)
      · cases h
        exact ⟨0, by omega, by simp⟩
      · exact ⟨k + 1, by omega, by simpa using h2⟩
    · rintro ⟨k, h1, h2⟩
      cases k with
      | zero => simp at h2; subst h2; left; simp at h1; subst h1; rfl
      | succ k => exact Or.inr ⟨k, by omega, by simpa using h2⟩
theorem lh_has {ls : Array Slot} {nL : Nat} {lv : List (Option Value)} (h : lh ls nL lv) : lv_has ls nL (lcv 0 lv) := by
  refine ⟨h.1, h.2.1, fun q hq => ?_⟩
  obtain ⟨i, v⟩ := q
  obtain ⟨k, h1, h2⟩ := (lcv_mem lv 0 i v).mp hq
  have := (h.2.2.2 k v h2).1
  simp at h1
  subst h1
  exact this
theorem lh_at {ls : Array Slot} {nL : Nat} {lv : List (Option Value)} (h : lh ls nL lv) {i : Nat} {v : Value} (hv : lv[i]? = some (some v)) : ls[i]? = some (.val v) := (h.2.2.2 i v hv).1
theorem lh_pos {ls : Array Slot} {nL : Nat} {lv : List (Option Value)} (h : lh ls nL lv) {i : Nat} {v : Value} (hv : lv[i]? = some (some v)) : ∃ k : Nat, (lcv 0 lv)[k]? = some (i, v) :=
  List.getElem?_of_mem ((lcv_mem lv 0 i v).mpr ⟨i, by omega, hv⟩)
theorem lh_set {ls ls' : Array Slot} {nL : Nat} {lv : List (Option Value)} {i : Nat} {v : Value} (h : lh ls nL lv) (hv : v.category = 1) (hi : i < lv.length)
    (h' : lv_has ls' nL ((i, v) :: (lcv 0 lv).filter (fun q => !(q.1 == i) && !(q.1 + 1 == i && q.2.category == 2)))) : lh ls' nL (lv.set i (some v)) := by
  refine ⟨h'.1, h'.2.1, by rw [List.length_set]; exact h.2.2.1, fun j w hw => ?_⟩
  by_cases hj : j = i
  · subst hj
    rw [List.getElem?_set_self hi] at hw
    cases hw
    exact ⟨h'.2.2 (j, v) List.mem_cons_self, hv⟩
  · rw [List.getElem?_set_ne (Ne.symm hj)] at hw
    have hc := (h.2.2.2 j w hw).2
    refine ⟨h'.2.2 (j, w) (List.mem_cons_of_mem _ (List.mem_filter.mpr ⟨(lcv_mem lv 0 j w).mpr ⟨j, by omega, hw⟩, ?_⟩)), hc⟩
    simp [hj, hc]
theorem lh_forget {ls : Array Slot} {nL : Nat} {lv lv' : List (Option Value)} (h : lh ls nL lv) (hl : lv'.length = lv.length) (hs : ∀ (i : Nat) (v : Value), lv'[i]? = some (some v) → lv[i]? = some (some v)) : lh ls nL lv' :=
  ⟨h.1, h.2.1, hl.trans h.2.2.1, fun i v hv => h.2.2.2 i v (hs i v hv)⟩
def a1 (vs : List Value) : Bool := vs.all (fun v => match v with | .long _ => false | .double _ => false | _ => true)
theorem a1_cat {v : Value} (h : (match v with | .long _ => false | .double _ => false | _ => true) = true) : v.category = 1 := by cases v <;> simp_all [Value.category]
theorem lv_args1 : ∀ (vs : List Value) (i : Nat), a1 vs = true → ∀ (k : Nat) (v : Value), vs[k]? = some v → (i + k, v) ∈ lv_args i vs ∧ v.category = 1
  | [], i, _, k, v, h => by simp at h
  | w :: vs, i, ha, k, v, h => by
    simp only [a1, List.all_cons, Bool.and_eq_true] at ha
    have hw := a1_cat ha.1
    have hn : ¬ w.category = 2 := by omega
    rw [lv_args, if_neg hn]
    cases k with
    | zero => simp at h; subst h; exact ⟨List.mem_cons_self, hw⟩
    | succ k =>
      obtain ⟨h1, h2⟩ := lv_args1 vs (i + 1) ha.2 k v (by simpa using h)
      exact ⟨List.mem_cons_of_mem _ (by rw [show i + (k + 1) = i + 1 + k by omega]; exact h1), h2⟩
theorem a1_len : ∀ (vs : List Value), a1 vs = true → (lg_sl vs).length = vs.length
  | [], _ => rfl
  | w :: vs, ha => by
    simp only [a1, List.all_cons, Bool.and_eq_true] at ha
    have hw := a1_cat ha.1
    have ih := a1_len vs ha.2
    cases w <;> simp_all [lg_sl]
theorem lh_entry (vs : List Value) (n : Nat) (ha : a1 vs = true) (hn : vs.length ≤ n) : lh ((lg_sl vs ++ List.replicate (n - (lg_sl vs).length) Slot.unset).toArray) n (vs.map some ++ List.replicate (n - vs.length) none) := by
  have h := lv_entry vs (n := n) (by rw [a1_len vs ha]; exact hn)
  refine ⟨h.1, h.2.1, by simp; omega, fun i v hv => ?_⟩
  by_cases hi : i < vs.length
  · rw [List.getElem?_append_left (by simpa using hi), List.getElem?_map] at hv
    have hv2 : vs[i]? = some v := by
      cases hx : vs[i]? with
      | none => rw [hx] at hv; cases hv
      | some w => rw [hx] at hv; simp at hv; rw [hv]
    obtain ⟨h1, h2⟩ := lv_args1 vs 0 ha i v hv2
    exact ⟨by have := h.2.2 _ h1; simpa using this, h2⟩
  · rw [List.getElem?_append_right (by simp; omega)] at hv
    rw [List.getElem?_replicate] at hv
    split at hv <;> simp at hv
/-- what every row of a method stands on -/
def Cx (p : Program) (l : Launch) (s : State) (m : MethodId) (args : Array Value) (meth : Method) (c : Code) (cc : ByteArray) (nL : Nat) (Ts : List Cond) (own : String) (A : Nat → Prop) (D : va_G) (ad : Nat → Nat) (cI cL : ClassId) : Prop :=
  CallFix p m c cc nL s args Ts own ∧ meth.locks = false ∧ va_K D vwCl [(cI, .int)] s ∧ Nst s ∧ adOK ad ∧ (∀ q, AW ad q → A q) ∧ l.flags = flags0
/-- from the place pc, with these locals, this stack, these numbers, the method comes to its end -/
def Go (p : Program) (l : Launch) (e : Env) (R : Room) (s : State) (m : MethodId) (args : Array Value) (below : List Frame) (meth : Method) (c : Code) (cells slots : Nat) (Q : State → Prop) (A : Nat → Prop) (D : va_G) (ad : Nat → Nat) (cI cL : ClassId) (nL : Nat) (pc : Nat) (lv : List (Option Value)) (st : List Value) (μ : Mem) : Prop :=
  ∀ (ls : Array Slot) (H : Heap) (locs : List Loc), lh ls nL lv → va_P D vwCl (wd ad cI cL μ) H → va_S A s.heap H locs → W p l e R s m args below meth c H locs cells slots Q (F0 m pc ls st)
section GO
variable {p : Program} {l : Launch} {e : Env} {R : Room} {s : State} {m : MethodId} {args : Array Value} {below : List Frame} {meth : Method} {c : Code} {cells slots : Nat} {Q : State → Prop} {A : Nat → Prop} {D : va_G} {ad : Nat → Nat} {cI cL : ClassId} {nL : Nat} {cc : ByteArray} {own : String} {Ts : List Cond} {pc : Nat} {st : List Value} {μ : Mem} {lv : List (Option Value)}
theorem go_forget {lv' : List (Option Value)} (hl : lv'.length = lv.length) (hs : ∀ (i : Nat) (v : Value), lv'[i]? = some (some v) → lv[i]? = some (some v)) (k : Go p l e R s m args below meth c cells slots Q A D ad cI cL nL (pc) (lv') (st) (μ)) : Go p l e R s m args below meth c cells slots Q A D ad cI cL nL (pc) (lv) (st) (μ) :=
  fun ls H locs hl' hP hS => k ls H locs (lh_forget hl' hl hs) hP hS
theorem go_mem {μ' : Mem} (hm : μ = μ') (k : Go p l e R s m args below meth c cells slots Q A D ad cI cL nL (pc) (lv) (st) (μ')) : Go p l e R s m args below meth c cells slots Q A D ad cI cL nL (pc) (lv) (st) (μ) := by subst hm; exact k
theorem go_lv {lv' : List (Option Value)} (hm : lv = lv') (k : Go p l e R s m args below meth c cells slots Q A D ad cI cL nL (pc) (lv') (st) (μ)) : Go p l e R s m args below meth c cells slots Q A D ad cI cL nL (pc) (lv) (st) (μ) := by subst hm; exact k
theorem go_st {st' : List Value} (hm : st = st') (k : Go p l e R s m args below meth c cells slots Q A D ad cI cL nL (pc) (lv) (st') (μ)) : Go p l e R s m args below meth c cells slots Q A D ad cI cL nL (pc) (lv) (st) (μ) := by subst hm; exact k
theorem go_pc {pc' : Nat} (hm : pc = pc') (k : Go p l e R s m args below meth c cells slots Q A D ad cI cL nL (pc') (lv) (st) (μ)) : Go p l e R s m args below meth c cells slots Q A D ad cI cL nL (pc) (lv) (st) (μ) := by subst hm; exact k
/-- the number on top gets another form -/
theorem go_top {x y : Int32} (h : x = y) (k : Go p l e R s m args below meth c cells slots Q A D ad cI cL nL (pc) (lv) (.int y :: st) (μ)) : Go p l e R s m args below meth c cells slots Q A D ad cI cL nL (pc) (lv) (.int x :: st) (μ) := by subst h; exact k
theorem go_drop0 {o : Option Value} {t : List (Option Value)} (k : Go p l e R s m args below meth c cells slots Q A D ad cI cL nL (pc) (none :: t) (st) (μ)) : Go p l e R s m args below meth c cells slots Q A D ad cI cL nL (pc) (o :: t) (st) (μ) :=
  fun ls H locs hl hP hS => k ls H locs (lh_forget hl rfl (fun i v h => by
    rcases Nat.lt_trichotomy i 0 with q | q | q
    · omega
    · subst q; simp at h
    · obtain ⟨z, rfl⟩ : ∃ z, i = z + 1 := ⟨i - 1, by omega⟩
      simpa using h)) hP hS
theorem go_drop1 {x0 o : Option Value} {t : List (Option Value)} (k : Go p l e R s m args below meth c cells slots Q A D ad cI cL nL (pc) (x0 :: none :: t) (st) (μ)) : Go p l e R s m args below meth c cells slots Q A D ad cI cL nL (pc) (x0 :: o :: t) (st) (μ) :=
  fun ls H locs hl hP hS => k ls H locs (lh_forget hl rfl (fun i v h => by
    rcases Nat.lt_trichotomy i 1 with q | q | q
    · rcases (show i = 0 by omega) with rfl <;> simpa using h
    · subst q; simp at h
    · obtain ⟨z, rfl⟩ : ∃ z, i = z + 2 := ⟨i - 2, by omega⟩
      simpa using h)) hP hS
theorem go_drop2 {x0 x1 o : Option Value} {t : List (Option Value)} (k : Go p l e R s m args below meth c cells slots Q A D ad cI cL nL (pc) (x0 :: x1 :: none :: t) (st) (μ)) : Go p l e R s m args below meth c cells slots Q A D ad cI cL nL (pc) (x0 :: x1 :: o :: t) (st) (μ) :=
  fun ls H locs hl hP hS => k ls H locs (lh_forget hl rfl (fun i v h => by
    rcases Nat.lt_trichotomy i 2 with q | q | q
    · rcases (show i = 0 ∨ i = 1 by omega) with rfl | rfl <;> simpa using h
    · subst q; simp at h
    · obtain ⟨z, rfl⟩ : ∃ z, i = z + 3 := ⟨i - 3, by omega⟩
      simpa using h)) hP hS
theorem go_drop3 {x0 x1 x2 o : Option Value} {t : List (Option Value)} (k : Go p l e R s m args below meth c cells slots Q A D ad cI cL nL (pc) (x0 :: x1 :: x2 :: none :: t) (st) (μ)) : Go p l e R s m args below meth c cells slots Q A D ad cI cL nL (pc) (x0 :: x1 :: x2 :: o :: t) (st) (μ) :=
  fun ls H locs hl hP hS => k ls H locs (lh_forget hl rfl (fun i v h => by
    rcases Nat.lt_trichotomy i 3 with q | q | q
    · rcases (show i = 0 ∨ i = 1 ∨ i = 2 by omega) with rfl | rfl | rfl <;> simpa using h
    · subst q; simp at h
    · obtain ⟨z, rfl⟩ : ∃ z, i = z + 4 := ⟨i - 4, by omega⟩
      simpa using h)) hP hS
theorem go_drop4 {x0 x1 x2 x3 o : Option Value} {t : List (Option Value)} (k : Go p l e R s m args below meth c cells slots Q A D ad cI cL nL (pc) (x0 :: x1 :: x2 :: x3 :: none :: t) (st) (μ)) : Go p l e R s m args below meth c cells slots Q A D ad cI cL nL (pc) (x0 :: x1 :: x2 :: x3 :: o :: t) (st) (μ) :=
  fun ls H locs hl hP hS => k ls H locs (lh_forget hl rfl (fun i v h => by
    rcases Nat.lt_trichotomy i 4 with q | q | q
    · rcases (show i = 0 ∨ i = 1 ∨ i = 2 ∨ i = 3 by omega) with rfl | rfl | rfl | rfl <;> simpa using h
    · subst q; simp at h
    · obtain ⟨z, rfl⟩ : ∃ z, i = z + 5 := ⟨i - 5, by omega⟩
      simpa using h)) hP hS
theorem go_drop5 {x0 x1 x2 x3 x4 o : Option Value} {t : List (Option Value)} (k : Go p l e R s m args below meth c cells slots Q A D ad cI cL nL (pc) (x0 :: x1 :: x2 :: x3 :: x4 :: none :: t) (st) (μ)) : Go p l e R s m args below meth c cells slots Q A D ad cI cL nL (pc) (x0 :: x1 :: x2 :: x3 :: x4 :: o :: t) (st) (μ) :=
  fun ls H locs hl hP hS => k ls H locs (lh_forget hl rfl (fun i v h => by
    rcases Nat.lt_trichotomy i 5 with q | q | q
    · rcases (show i = 0 ∨ i = 1 ∨ i = 2 ∨ i = 3 ∨ i = 4 by omega) with rfl | rfl | rfl | rfl | rfl <;> simpa using h
    · subst q; simp at h
    · obtain ⟨z, rfl⟩ : ∃ z, i = z + 6 := ⟨i - 6, by omega⟩
      simpa using h)) hP hS
theorem go_drop6 {x0 x1 x2 x3 x4 x5 o : Option Value} {t : List (Option Value)} (k : Go p l e R s m args below meth c cells slots Q A D ad cI cL nL (pc) (x0 :: x1 :: x2 :: x3 :: x4 :: x5 :: none :: t) (st) (μ)) : Go p l e R s m args below meth c cells slots Q A D ad cI cL nL (pc) (x0 :: x1 :: x2 :: x3 :: x4 :: x5 :: o :: t) (st) (μ) :=
  fun ls H locs hl hP hS => k ls H locs (lh_forget hl rfl (fun i v h => by
    rcases Nat.lt_trichotomy i 6 with q | q | q
    · rcases (show i = 0 ∨ i = 1 ∨ i = 2 ∨ i = 3 ∨ i = 4 ∨ i = 5 by omega) with rfl | rfl | rfl | rfl | rfl | rfl <;> simpa using h
    · subst q; simp at h
    · obtain ⟨z, rfl⟩ : ∃ z, i = z + 7 := ⟨i - 7, by omega⟩
      simpa using h)) hP hS
theorem go_drop7 {x0 x1 x2 x3 x4 x5 x6 o : Option Value} {t : List (Option Value)} (k : Go p l e R s m args below meth c cells slots Q A D ad cI cL nL (pc) (x0 :: x1 :: x2 :: x3 :: x4 :: x5 :: x6 :: none :: t) (st) (μ)) : Go p l e R s m args below meth c cells slots Q A D ad cI cL nL (pc) (x0 :: x1 :: x2 :: x3 :: x4 :: x5 :: x6 :: o :: t) (st) (μ) :=
  fun ls H locs hl hP hS => k ls H locs (lh_forget hl rfl (fun i v h => by
    rcases Nat.lt_trichotomy i 7 with q | q | q
    · rcases (show i = 0 ∨ i = 1 ∨ i = 2 ∨ i = 3 ∨ i = 4 ∨ i = 5 ∨ i = 6 by omega) with rfl | rfl | rfl | rfl | rfl | rfl | rfl <;> simpa using h
    · subst q; simp at h
    · obtain ⟨z, rfl⟩ : ∃ z, i = z + 8 := ⟨i - 8, by omega⟩
      simpa using h)) hP hS
theorem go_drop8 {x0 x1 x2 x3 x4 x5 x6 x7 o : Option Value} {t : List (Option Value)} (k : Go p l e R s m args below meth c cells slots Q A D ad cI cL nL (pc) (x0 :: x1 :: x2 :: x3 :: x4 :: x5 :: x6 :: x7 :: none :: t) (st) (μ)) : Go p l e R s m args below meth c cells slots Q A D ad cI cL nL (pc) (x0 :: x1 :: x2 :: x3 :: x4 :: x5 :: x6 :: x7 :: o :: t) (st) (μ) :=
  fun ls H locs hl hP hS => k ls H locs (lh_forget hl rfl (fun i v h => by
    rcases Nat.lt_trichotomy i 8 with q | q | q
    · rcases (show i = 0 ∨ i = 1 ∨ i = 2 ∨ i = 3 ∨ i = 4 ∨ i = 5 ∨ i = 6 ∨ i = 7 by omega) with rfl | rfl | rfl | rfl | rfl | rfl | rfl | rfl <;> simpa using h
    · subst q; simp at h
    · obtain ⟨z, rfl⟩ : ∃ z, i = z + 9 := ⟨i - 9, by omega⟩
      simpa using h)) hP hS
theorem go_drop9 {x0 x1 x2 x3 x4 x5 x6 x7 x8 o : Option Value} {t : List (Option Value)} (k : Go p l e R s m args below meth c cells slots Q A D ad cI cL nL (pc) (x0 :: x1 :: x2 :: x3 :: x4 :: x5 :: x6 :: x7 :: x8 :: none :: t) (st) (μ)) : Go p l e R s m args below meth c cells slots Q A D ad cI cL nL (pc) (x0 :: x1 :: x2 :: x3 :: x4 :: x5 :: x6 :: x7 :: x8 :: o :: t) (st) (μ) :=
  fun ls H locs hl hP hS => k ls H locs (lh_forget hl rfl (fun i v h => by
    rcases Nat.lt_trichotomy i 9 with q | q | q
    · rcases (show i = 0 ∨ i = 1 ∨ i = 2 ∨ i = 3 ∨ i = 4 ∨ i = 5 ∨ i = 6 ∨ i = 7 ∨ i = 8 by omega) with rfl | rfl | rfl | rfl | rfl | rfl | rfl | rfl | rfl <;> simpa using h
    · subst q; simp at h
    · obtain ⟨z, rfl⟩ : ∃ z, i = z + 10 := ⟨i - 10, by omega⟩
      simpa using h)) hP hS
theorem go_iconst (C : Cx p l s m args meth c cc nL Ts own A D ad cI cL) {n : Int} {v : Int32} (hv : Int32.ofInt n = v) (hdg : decode cc pc = .ok (.iconst n, 1)) (k : Go p l e R s m args below meth c cells slots Q A D ad cI cL nL (pc + 1) (lv) (.int v :: st) (μ)) : Go p l e R s m args below meth c cells slots Q A D ad cI cL nL (pc) (lv) (st) (μ) :=
  fun ls H locs hl hP hS => lv_iconst C.1.1 C.1.2.1 hdg hv (k ls H locs hl hP hS)
theorem go_bipush (C : Cx p l s m args meth c cc nL Ts own A D ad cI cL) {n : Int} {v : Int32} (hv : (Int8.ofInt n).toInt32 = v) (hdg : decode cc pc = .ok (.bipush n, 2)) (k : Go p l e R s m args below meth c cells slots Q A D ad cI cL nL (pc + 2) (lv) (.int v :: st) (μ)) : Go p l e R s m args below meth c cells slots Q A D ad cI cL nL (pc) (lv) (st) (μ) :=
  fun ls H locs hl hP hS => lv_bipush C.1.1 C.1.2.1 hdg hv (k ls H locs hl hP hS)
theorem go_sipush (C : Cx p l s m args meth c cc nL Ts own A D ad cI cL) {n : Int} {v : Int32} (hv : (Int16.ofInt n).toInt32 = v) (hdg : decode cc pc = .ok (.sipush n, 3)) (k : Go p l e R s m args below meth c cells slots Q A D ad cI cL nL (pc + 3) (lv) (.int v :: st) (μ)) : Go p l e R s m args below meth c cells slots Q A D ad cI cL nL (pc) (lv) (st) (μ) :=
  fun ls H locs hl hP hS => lv_sipush C.1.1 C.1.2.1 hdg hv (k ls H locs hl hP hS)
theorem go_lconst (C : Cx p l s m args meth c cc nL Ts own A D ad cI cL) {n : Fin 2} {v : Int64} (hv : Int64.ofNat (n : Nat) = v) (hdg : decode cc pc = .ok (.lconst n, 1)) (k : Go p l e R s m args below meth c cells slots Q A D ad cI cL nL (pc + 1) (lv) (.long v :: st) (μ)) : Go p l e R s m args below meth c cells slots Q A D ad cI cL nL (pc) (lv) (st) (μ) :=
  fun ls H locs hl hP hS => lv_lconst C.1.1 C.1.2.1 hdg hv (k ls H locs hl hP hS)
theorem go_iadd (C : Cx p l s m args meth c cc nL Ts own A D ad cI cL) {x y : Int32} (hdg : decode cc pc = .ok (.iadd, 1)) (k : Go p l e R s m args below meth c cells slots Q A D ad cI cL nL (pc + 1) (lv) (.int (x + y) :: st) (μ)) : Go p l e R s m args below meth c cells slots Q A D ad cI cL nL (pc) (lv) (.int y :: .int x :: st) (μ) :=
  fun ls H locs hl hP hS => lv_iadd C.1.1 C.1.2.1 hdg (k ls H locs hl hP hS)
theorem go_isub (C : Cx p l s m args meth c cc nL Ts own A D ad cI cL) {x y : Int32} (hdg : decode cc pc = .ok (.isub, 1)) (k : Go p l e R s m args below meth c cells slots Q A D ad cI cL nL (pc + 1) (lv) (.int (x - y) :: st) (μ)) : Go p l e R s m args below meth c cells slots Q A D ad cI cL nL (pc) (lv) (.int y :: .int x :: st) (μ) :=
  fun ls H locs hl hP hS => lv_isub C.1.1 C.1.2.1 hdg (k ls H locs hl hP hS)
theorem go_imul (C : Cx p l s m args meth c cc nL Ts own A D ad cI cL) {x y : Int32} (hdg : decode cc pc = .ok (.imul, 1)) (k : Go p l e R s m args below meth c cells slots Q A D ad cI cL nL (pc + 1) (lv) (.int (x * y) :: st) (μ)) : Go p l e R s m args below meth c cells slots Q A D ad cI cL nL (pc) (lv) (.int y :: .int x :: st) (μ) :=
  fun ls H locs hl hP hS => lv_imul C.1.1 C.1.2.1 hdg (k ls H locs hl hP hS)
theorem go_iand (C : Cx p l s m args meth c cc nL Ts own A D ad cI cL) {x y : Int32} (hdg : decode cc pc = .ok (.iand, 1)) (k : Go p l e R s m args below meth c cells slots Q A D ad cI cL nL (pc + 1) (lv) (.int (x &&& y) :: st) (μ)) : Go p l e R s m args below meth c cells slots Q A D ad cI cL nL (pc) (lv) (.int y :: .int x :: st) (μ) :=
  fun ls H locs hl hP hS => lv_iand C.1.1 C.1.2.1 hdg (k ls H locs hl hP hS)
theorem go_ior (C : Cx p l s m args meth c cc nL Ts own A D ad cI cL) {x y : Int32} (hdg : decode cc pc = .ok (.ior, 1)) (k : Go p l e R s m args below meth c cells slots Q A D ad cI cL nL (pc + 1) (lv) (.int (x ||| y) :: st) (μ)) : Go p l e R s m args below meth c cells slots Q A D ad cI cL nL (pc) (lv) (.int y :: .int x :: st) (μ) :=
  fun ls H locs hl hP hS => lv_ior C.1.1 C.1.2.1 hdg (k ls H locs hl hP hS)
theorem go_ixor (C : Cx p l s m args meth c cc nL Ts own A D ad cI cL) {x y : Int32} (hdg : decode cc pc = .ok (.ixor, 1)) (k : Go p l e R s m args below meth c cells slots Q A D ad cI cL nL (pc + 1) (lv) (.int (x ^^^ y) :: st) (μ)) : Go p l e R s m args below meth c cells slots Q A D ad cI cL nL (pc) (lv) (.int y :: .int x :: st) (μ) :=
  fun ls H locs hl hP hS => lv_ixor C.1.1 C.1.2.1 hdg (k ls H locs hl hP hS)
theorem go_ishl (C : Cx p l s m args meth c cc nL Ts own A D ad cI cL) {x y : Int32} (hdg : decode cc pc = .ok (.ishl, 1)) (k : Go p l e R s m args below meth c cells slots Q A D ad cI cL nL (pc + 1) (lv) (.int (x <<< (y &&& 31)) :: st) (μ)) : Go p l e R s m args below meth c cells slots Q A D ad cI cL nL (pc) (lv) (.int y :: .int x :: st) (μ) :=
  fun ls H locs hl hP hS => lv_ishl C.1.1 C.1.2.1 hdg (k ls H locs hl hP hS)
theorem go_ishr (C : Cx p l s m args meth c cc nL Ts own A D ad cI cL) {x y : Int32} (hdg : decode cc pc = .ok (.ishr, 1)) (k : Go p l e R s m args below meth c cells slots Q A D ad cI cL nL (pc + 1) (lv) (.int (x >>> (y &&& 31)) :: st) (μ)) : Go p l e R s m args below meth c cells slots Q A D ad cI cL nL (pc) (lv) (.int y :: .int x :: st) (μ) :=
  fun ls H locs hl hP hS => lv_ishr C.1.1 C.1.2.1 hdg (k ls H locs hl hP hS)
theorem go_iushr (C : Cx p l s m args meth c cc nL Ts own A D ad cI cL) {x y : Int32} (hdg : decode cc pc = .ok (.iushr, 1)) (k : Go p l e R s m args below meth c cells slots Q A D ad cI cL nL (pc + 1) (lv) (.int ((x.toUInt32 >>> (y.toUInt32 &&& Int32.toUInt32 31)).toInt32) :: st) (μ)) : Go p l e R s m args below meth c cells slots Q A D ad cI cL nL (pc) (lv) (.int y :: .int x :: st) (μ) :=
  fun ls H locs hl hP hS => lv_iushr C.1.1 C.1.2.1 hdg rfl (k ls H locs hl hP hS)
theorem go_idiv (C : Cx p l s m args meth c cc nL Ts own A D ad cI cL) {x y : Int32} (hne : ¬ y = 0) (hdg : decode cc pc = .ok (.idiv, 1)) (k : Go p l e R s m args below meth c cells slots Q A D ad cI cL nL (pc + 1) (lv) (.int (x / y) :: st) (μ)) : Go p l e R s m args below meth c cells slots Q A D ad cI cL nL (pc) (lv) (.int y :: .int x :: st) (μ) :=
  fun ls H locs hl hP hS => lv_idiv C.1.1 C.1.2.1 hdg hne (k ls H locs hl hP hS)
theorem go_irem (C : Cx p l s m args meth c cc nL Ts own A D ad cI cL) {x y : Int32} (hne : ¬ y = 0) (hdg : decode cc pc = .ok (.irem, 1)) (k : Go p l e R s m args below meth c cells slots Q A D ad cI cL nL (pc + 1) (lv) (.int (x - x / y * y) :: st) (μ)) : Go p l e R s m args below meth c cells slots Q A D ad cI cL nL (pc) (lv) (.int y :: .int x :: st) (μ) :=
  fun ls H locs hl hP hS => lv_irem C.1.1 C.1.2.1 hdg hne (k ls H locs hl hP hS)
theorem go_i2l (C : Cx p l s m args meth c cc nL Ts own A D ad cI cL) {x : Int32} (hdg : decode cc pc = .ok (.i2l, 1)) (k : Go p l e R s m args below meth c cells slots Q A D ad cI cL nL (pc + 1) (lv) (.long x.toInt64 :: st) (μ)) : Go p l e R s m args below meth c cells slots Q A D ad cI cL nL (pc) (lv) (.int x :: st) (μ) :=
  fun ls H locs hl hP hS => lv_i2l C.1.1 C.1.2.1 hdg rfl (k ls H locs hl hP hS)
theorem go_i2c (C : Cx p l s m args meth c cc nL Ts own A D ad cI cL) {x : Int32} (hdg : decode cc pc = .ok (.i2c, 1)) (k : Go p l e R s m args below meth c cells slots Q A D ad cI cL nL (pc + 1) (lv) (.int ((x.toUInt32 % 65536).toInt32) :: st) (μ)) : Go p l e R s m args below meth c cells slots Q A D ad cI cL nL (pc) (lv) (.int x :: st) (μ) :=
  fun ls H locs hl hP hS => lv_i2c C.1.1 C.1.2.1 hdg rfl (k ls H locs hl hP hS)
theorem go_i2f (C : Cx p l s m args meth c cc nL Ts own A D ad cI cL) {x : Int32} (hdg : decode cc pc = .ok (.i2f, 1)) (k : Go p l e R s m args below meth c cells slots Q A D ad cI cL nL (pc + 1) (lv) (.float (FP.i2f x) :: st) (μ)) : Go p l e R s m args below meth c cells slots Q A D ad cI cL nL (pc) (lv) (.int x :: st) (μ) :=
  fun ls H locs hl hP hS => lv_i2f C.1.1 C.1.2.1 hdg (k ls H locs hl hP hS)
theorem go_lcmp (C : Cx p l s m args meth c cc nL Ts own A D ad cI cL) {x y : Int64} (hdg : decode cc pc = .ok (.lcmp, 1)) (k : Go p l e R s m args below meth c cells slots Q A D ad cI cL nL (pc + 1) (lv) (.int (lg_cmp x y) :: st) (μ)) : Go p l e R s m args below meth c cells slots Q A D ad cI cL nL (pc) (lv) (.long y :: .long x :: st) (μ) :=
  fun ls H locs hl hP hS => W.lcmp C.1.1 C.1.2.1 hdg (k ls H locs hl hP hS)
theorem go_dup (C : Cx p l s m args meth c cc nL Ts own A D ad cI cL) {v : Value} (hv : v.category = 1) (hdg : decode cc pc = .ok (.dup, 1)) (k : Go p l e R s m args below meth c cells slots Q A D ad cI cL nL (pc + 1) (lv) (v :: v :: st) (μ)) : Go p l e R s m args below meth c cells slots Q A D ad cI cL nL (pc) (lv) (v :: st) (μ) :=
  fun ls H locs hl hP hS => lv_dup C.1.1 C.1.2.1 hdg hv (k ls H locs hl hP hS)
theorem go_pop (C : Cx p l s m args meth c cc nL Ts own A D ad cI cL) {v : Value} (hv : v.category = 1) (hdg : decode cc pc = .ok (.pop, 1)) (k : Go p l e R s m args below meth c cells slots Q A D ad cI cL nL (pc + 1) (lv) (st) (μ)) : Go p l e R s m args below meth c cells slots Q A D ad cI cL nL (pc) (lv) (v :: st) (μ) :=
  fun ls H locs hl hP hS => lv_pop C.1.1 C.1.2.1 hdg hv (k ls H locs hl hP hS)
theorem go_dup2 (C : Cx p l s m args meth c cc nL Ts own A D ad cI cL) {v w : Value} (hv : v.category = 1) (hw : w.category = 1) (hdg : decode cc pc = .ok (.dup2, 1)) (k : Go p l e R s m args below meth c cells slots Q A D ad cI cL nL (pc + 1) (lv) (v :: w :: v :: w :: st) (μ)) : Go p l e R s m args below meth c cells slots Q A D ad cI cL nL (pc) (lv) (v :: w :: st) (μ) :=
  fun ls H locs hl hP hS => lv_dup2_11 C.1.1 C.1.2.1 hdg hv hw (k ls H locs hl hP hS)
theorem go_goto (C : Cx p l s m args meth c cc nL Ts own A D ad cI cL) {off : Int} {tgt : Nat} (hdg : decode cc pc = .ok (.goto off, 3)) (ht : (pc : Int) + off = (tgt : Int)) (k : Go p l e R s m args below meth c cells slots Q A D ad cI cL nL (tgt) (lv) (st) (μ)) : Go p l e R s m args below meth c cells slots Q A D ad cI cL nL (pc) (lv) (st) (μ) :=
  fun ls H locs hl hP hS => lv_goto C.1.1 C.1.2.1 hdg ht (k ls H locs hl hP hS)
theorem go_if_eq (C : Cx p l s m args meth c cc nL Ts own A D ad cI cL) {x : Int32} {off : Int} {tgt : Nat} (hdg : decode cc pc = .ok (.ifCond .eq off, 3)) (ht : (pc : Int) + off = (tgt : Int)) (kt : x = 0 → Go p l e R s m args below meth c cells slots Q A D ad cI cL nL (tgt) (lv) (st) (μ)) (kf : ¬ x = 0 → Go p l e R s m args below meth c cells slots Q A D ad cI cL nL (pc + 3) (lv) (st) (μ)) : Go p l e R s m args below meth c cells slots Q A D ad cI cL nL (pc) (lv) (.int x :: st) (μ) :=
  fun ls H locs hl hP hS => lv_if_eq C.1.1 C.1.2.1 hdg ht (fun h => kt h ls H locs hl hP hS) (fun h => kf h ls H locs hl hP hS)
theorem go_icmp_eq (C : Cx p l s m args meth c cc nL Ts own A D ad cI cL) {x y : Int32} {off : Int} {tgt : Nat} (hdg : decode cc pc = .ok (.if_icmp .eq off, 3)) (ht : (pc : Int) + off = (tgt : Int)) (kt : x = y → Go p l e R s m args below meth c cells slots Q A D ad cI cL nL (tgt) (lv) (st) (μ)) (kf : ¬ x = y → Go p l e R s m args below meth c cells slots Q A D ad cI cL nL (pc + 3) (lv) (st) (μ)) : Go p l e R s m args below meth c cells slots Q A D ad cI cL nL (pc) (lv) (.int y :: .int x :: st) (μ) :=
  fun ls H locs hl hP hS => lv_icmp_eq C.1.1 C.1.2.1 hdg ht (fun h => kt h ls H locs hl hP hS) (fun h => kf h ls H locs hl hP hS)
theorem go_if_ne (C : Cx p l s m args meth c cc nL Ts own A D ad cI cL) {x : Int32} {off : Int} {tgt : Nat} (hdg : decode cc pc = .ok (.ifCond .ne off, 3)) (ht : (pc : Int) + off = (tgt : Int)) (kt : ¬ x = 0 → Go p l e R s m args below meth c cells slots Q A D ad cI cL nL (tgt) (lv) (st) (μ)) (kf : x = 0 → Go p l e R s m args below meth c cells slots Q A D ad cI cL nL (pc + 3) (lv) (st) (μ)) : Go p l e R s m args below meth c cells slots Q A D ad cI cL nL (pc) (lv) (.int x :: st) (μ) :=
  fun ls H locs hl hP hS => lv_if_ne C.1.1 C.1.2.1 hdg ht (fun h => kt h ls H locs hl hP hS) (fun h => kf h ls H locs hl hP hS)
theorem go_icmp_ne (C : Cx p l s m args meth c cc nL Ts own A D ad cI cL) {x y : Int32} {off : Int} {tgt : Nat} (hdg : decode cc pc = .ok (.if_icmp .ne off, 3)) (ht : (pc : Int) + off = (tgt : Int)) (kt : ¬ x = y → Go p l e R s m args below meth c cells slots Q A D ad cI cL nL (tgt) (lv) (st) (μ)) (kf : x = y → Go p l e R s m args below meth c cells slots Q A D ad cI cL nL (pc + 3) (lv) (st) (μ)) : Go p l e R s m args below meth c cells slots Q A D ad cI cL nL (pc) (lv) (.int y :: .int x :: st) (μ) :=
  fun ls H locs hl hP hS => lv_icmp_ne C.1.1 C.1.2.1 hdg ht (fun h => kt h ls H locs hl hP hS) (fun h => kf h ls H locs hl hP hS)
theorem go_if_lt (C : Cx p l s m args meth c cc nL Ts own A D ad cI cL) {x : Int32} {off : Int} {tgt : Nat} (hdg : decode cc pc = .ok (.ifCond .lt off, 3)) (ht : (pc : Int) + off = (tgt : Int)) (kt : x < 0 → Go p l e R s m args below meth c cells slots Q A D ad cI cL nL (tgt) (lv) (st) (μ)) (kf : ¬ x < 0 → Go p l e R s m args below meth c cells slots Q A D ad cI cL nL (pc + 3) (lv) (st) (μ)) : Go p l e R s m args below meth c cells slots Q A D ad cI cL nL (pc) (lv) (.int x :: st) (μ) :=
  fun ls H locs hl hP hS => lv_if_lt C.1.1 C.1.2.1 hdg ht (fun h => kt h ls H locs hl hP hS) (fun h => kf h ls H locs hl hP hS)
theorem go_icmp_lt (C : Cx p l s m args meth c cc nL Ts own A D ad cI cL) {x y : Int32} {off : Int} {tgt : Nat} (hdg : decode cc pc = .ok (.if_icmp .lt off, 3)) (ht : (pc : Int) + off = (tgt : Int)) (kt : x < y → Go p l e R s m args below meth c cells slots Q A D ad cI cL nL (tgt) (lv) (st) (μ)) (kf : ¬ x < y → Go p l e R s m args below meth c cells slots Q A D ad cI cL nL (pc + 3) (lv) (st) (μ)) : Go p l e R s m args below meth c cells slots Q A D ad cI cL nL (pc) (lv) (.int y :: .int x :: st) (μ) :=
  fun ls H locs hl hP hS => lv_icmp_lt C.1.1 C.1.2.1 hdg ht (fun h => kt h ls H locs hl hP hS) (fun h => kf h ls H locs hl hP hS)
theorem go_if_ge (C : Cx p l s m args meth c cc nL Ts own A D ad cI cL) {x : Int32} {off : Int} {tgt : Nat} (hdg : decode cc pc = .ok (.ifCond .ge off, 3)) (ht : (pc : Int) + off = (tgt : Int)) (kt : 0 ≤ x → Go p l e R s m args below meth c cells slots Q A D ad cI cL nL (tgt) (lv) (st) (μ)) (kf : ¬ 0 ≤ x → Go p l e R s m args below meth c cells slots Q A D ad cI cL nL (pc + 3) (lv) (st) (μ)) : Go p l e R s m args below meth c cells slots Q A D ad cI cL nL (pc) (lv) (.int x :: st) (μ) :=
  fun ls H locs hl hP hS => lv_if_ge C.1.1 C.1.2.1 hdg ht (fun h => kt h ls H locs hl hP hS) (fun h => kf h ls H locs hl hP hS)
theorem go_icmp_ge (C : Cx p l s m args meth c cc nL Ts own A D ad cI cL) {x y : Int32} {off : Int} {tgt : Nat} (hdg : decode cc pc = .ok (.if_icmp .ge off, 3)) (ht : (pc : Int) + off = (tgt : Int)) (kt : y ≤ x → Go p l e R s m args below meth c cells slots Q A D ad cI cL nL (tgt) (lv) (st) (μ)) (kf : ¬ y ≤ x → Go p l e R s m args below meth c cells slots Q A D ad cI cL nL (pc + 3) (lv) (st) (μ)) : Go p l e R s m args below meth c cells slots Q A D ad cI cL nL (pc) (lv) (.int y :: .int x :: st) (μ) :=
  fun ls H locs hl hP hS => lv_icmp_ge C.1.1 C.1.2.1 hdg ht (fun h => kt h ls H locs hl hP hS) (fun h => kf h ls H locs hl hP hS)
theorem go_if_gt (C : Cx p l s m args meth c cc nL Ts own A D ad cI cL) {x : Int32} {off : Int} {tgt : Nat} (hdg : decode cc pc = .ok (.ifCond .gt off, 3)) (ht : (pc : Int) + off = (tgt : Int)) (kt : 0 < x → Go p l e R s m args below meth c cells slots Q A D ad cI cL nL (tgt) (lv) (st) (μ)) (kf : ¬ 0 < x → Go p l e R s m args below meth c cells slots Q A D ad cI cL nL (pc + 3) (lv) (st) (μ)) : Go p l e R s m args below meth c cells slots Q A D ad cI cL nL (pc) (lv) (.int x :: st) (μ) :=
  fun ls H locs hl hP hS => lv_if_gt C.1.1 C.1.2.1 hdg ht (fun h => kt h ls H locs hl hP hS) (fun h => kf h ls H locs hl hP hS)
theorem go_icmp_gt (C : Cx p l s m args meth c cc nL Ts own A D ad cI cL) {x y : Int32} {off : Int} {tgt : Nat} (hdg : decode cc pc = .ok (.if_icmp .gt off, 3)) (ht : (pc : Int) + off = (tgt : Int)) (kt : y < x → Go p l e R s m args below meth c cells slots Q A D ad cI cL nL (tgt) (lv) (st) (μ)) (kf : ¬ y < x → Go p l e R s m args below meth c cells slots Q A D ad cI cL nL (pc + 3) (lv) (st) (μ)) : Go p l e R s m args below meth c cells slots Q A D ad cI cL nL (pc) (lv) (.int y :: .int x :: st) (μ) :=
  fun ls H locs hl hP hS => lv_icmp_gt C.1.1 C.1.2.1 hdg ht (fun h => kt h ls H locs hl hP hS) (fun h => kf h ls H locs hl hP hS)
theorem go_if_le (C : Cx p l s m args meth c cc nL Ts own A D ad cI cL) {x : Int32} {off : Int} {tgt : Nat} (hdg : decode cc pc = .ok (.ifCond .le off, 3)) (ht : (pc : Int) + off = (tgt : Int)) (kt : x ≤ 0 → Go p l e R s m args below meth c cells slots Q A D ad cI cL nL (tgt) (lv) (st) (μ)) (kf : ¬ x ≤ 0 → Go p l e R s m args below meth c cells slots Q A D ad cI cL nL (pc + 3) (lv) (st) (μ)) : Go p l e R s m args below meth c cells slots Q A D ad cI cL nL (pc) (lv) (.int x :: st) (μ) :=
  fun ls H locs hl hP hS => lv_if_le C.1.1 C.1.2.1 hdg ht (fun h => kt h ls H locs hl hP hS) (fun h => kf h ls H locs hl hP hS)
theorem go_icmp_le (C : Cx p l s m args meth c cc nL Ts own A D ad cI cL) {x y : Int32} {off : Int} {tgt : Nat} (hdg : decode cc pc = .ok (.if_icmp .le off, 3)) (ht : (pc : Int) + off = (tgt : Int)) (kt : x ≤ y → Go p l e R s m args below meth c cells slots Q A D ad cI cL nL (tgt) (lv) (st) (μ)) (kf : ¬ x ≤ y → Go p l e R s m args below meth c cells slots Q A D ad cI cL nL (pc + 3) (lv) (st) (μ)) : Go p l e R s m args below meth c cells slots Q A D ad cI cL nL (pc) (lv) (.int y :: .int x :: st) (μ) :=
  fun ls H locs hl hP hS => lv_icmp_le C.1.1 C.1.2.1 hdg ht (fun h => kt h ls H locs hl hP hS) (fun h => kf h ls H locs hl hP hS)
theorem go_iload0 (C : Cx p l s m args meth c cc nL Ts own A D ad cI cL) {t : List (Option Value)} {x : Int32} (hdg : decode cc pc = .ok (.iload_n 0, 1)) (k : Go p l e R s m args below meth c cells slots Q A D ad cI cL nL (pc + 1) (some (.int x) :: t) (.int x :: st) (μ)) : Go p l e R s m args below meth c cells slots Q A D ad cI cL nL (pc) (some (.int x) :: t) (st) (μ) :=
  fun ls H locs hl hP hS => lv_iload_n C.1.1 C.1.2.1 hdg rfl (lh_at hl rfl) (k ls H locs hl hP hS)
theorem go_istore0 (C : Cx p l s m args meth c cc nL Ts own A D ad cI cL) {o : Option Value} {t : List (Option Value)} {x : Int32} (hdg : decode cc pc = .ok (.istore_n 0, 1)) (k : Go p l e R s m args below meth c cells slots Q A D ad cI cL nL (pc + 1) (some (.int x) :: t) (st) (μ)) : Go p l e R s m args below meth c cells slots Q A D ad cI cL nL (pc) (o :: t) (.int x :: st) (μ) :=
  fun ls H locs hl hP hS => lv_istore_n C.1.1 C.1.2.1 hdg rfl (lh_has hl) (by have := hl.2.2.1; simp at this; omega) rfl (fun ls' h' => k ls' H locs (lh_set (i := 0) hl rfl (by simp) h') hP hS)
theorem go_aload0 (C : Cx p l s m args meth c cc nL Ts own A D ad cI cL) {t : List (Option Value)} {x : Nat} (hdg : decode cc pc = .ok (.aload_n 0, 1)) (k : Go p l e R s m args below meth c cells slots Q A D ad cI cL nL (pc + 1) (some (.ref x) :: t) (.ref x :: st) (μ)) : Go p l e R s m args below meth c cells slots Q A D ad cI cL nL (pc) (some (.ref x) :: t) (st) (μ) :=
  fun ls H locs hl hP hS => lv_aload_n C.1.1 C.1.2.1 hdg rfl (lh_at hl rfl) (k ls H locs hl hP hS)
theorem go_astore0 (C : Cx p l s m args meth c cc nL Ts own A D ad cI cL) {o : Option Value} {t : List (Option Value)} {x : Nat} (hdg : decode cc pc = .ok (.astore_n 0, 1)) (k : Go p l e R s m args below meth c cells slots Q A D ad cI cL nL (pc + 1) (some (.ref x) :: t) (st) (μ)) : Go p l e R s m args below meth c cells slots Q A D ad cI cL nL (pc) (o :: t) (.ref x :: st) (μ) :=
  fun ls H locs hl hP hS => lv_astore_n C.1.1 C.1.2.1 hdg rfl (lh_has hl) (by have := hl.2.2.1; simp at this; omega) rfl (fun ls' h' => k ls' H locs (lh_set (i := 0) hl rfl (by simp) h') hP hS)
theorem go_iinc0 (C : Cx p l s m args meth c cc nL Ts own A D ad cI cL) {t : List (Option Value)} {x v : Int32} {n : Int} (hdg : decode cc pc = .ok (.iinc 0 n, 3)) (hv : Int32.ofInt n = v) (k : Go p l e R s m args below meth c cells slots Q A D ad cI cL nL (pc + 3) (some (.int (x + v)) :: t) (st) (μ)) : Go p l e R s m args below meth c cells slots Q A D ad cI cL nL (pc) (some (.int x) :: t) (st) (μ) := by
  subst hv
  intro ls H locs hl hP hS
  obtain ⟨kk, hk⟩ := lh_pos hl (i := 0) (v := .int x) rfl
  exact lv_iinc C.1.1 C.1.2.1 hdg (lh_has hl) hk rfl (by have := hl.2.2.1; simp at this; omega) rfl (fun ls' h' => k ls' H locs (lh_set (i := 0) hl rfl (by simp) h') hP hS)
theorem go_iload1 (C : Cx p l s m args meth c cc nL Ts own A D ad cI cL) {x0 : Option Value} {t : List (Option Value)} {x : Int32} (hdg : decode cc pc = .ok (.iload_n 1, 1)) (k : Go p l e R s m args below meth c cells slots Q A D ad cI cL nL (pc + 1) (x0 :: some (.int x) :: t) (.int x :: st) (μ)) : Go p l e R s m args below meth c cells slots Q A D ad cI cL nL (pc) (x0 :: some (.int x) :: t) (st) (μ) :=
  fun ls H locs hl hP hS => lv_iload_n C.1.1 C.1.2.1 hdg rfl (lh_at hl rfl) (k ls H locs hl hP hS)
theorem go_istore1 (C : Cx p l s m args meth c cc nL Ts own A D ad cI cL) {x0 o : Option Value} {t : List (Option Value)} {x : Int32} (hdg : decode cc pc = .ok (.istore_n 1, 1)) (k : Go p l e R s m args below meth c cells slots Q A D ad cI cL nL (pc + 1) (x0 :: some (.int x) :: t) (st) (μ)) : Go p l e R s m args below meth c cells slots Q A D ad cI cL nL (pc) (x0 :: o :: t) (.int x :: st) (μ) :=
  fun ls H locs hl hP hS => lv_istore_n C.1.1 C.1.2.1 hdg rfl (lh_has hl) (by have := hl.2.2.1; simp at this; omega) rfl (fun ls' h' => k ls' H locs (lh_set (i := 1) hl rfl (by simp) h') hP hS)
theorem go_aload1 (C : Cx p l s m args meth c cc nL Ts own A D ad cI cL) {x0 : Option Value} {t : List (Option Value)} {x : Nat} (hdg : decode cc pc = .ok (.aload_n 1, 1)) (k : Go p l e R s m args below meth c cells slots Q A D ad cI cL nL (pc + 1) (x0 :: some (.ref x) :: t) (.ref x :: st) (μ)) : Go p l e R s m args below meth c cells slots Q A D ad cI cL nL (pc) (x0 :: some (.ref x) :: t) (st) (μ) :=
  fun ls H locs hl hP hS => lv_aload_n C.1.1 C.1.2.1 hdg rfl (lh_at hl rfl) (k ls H locs hl hP hS)
theorem go_astore1 (C : Cx p l s m args meth c cc nL Ts own A D ad cI cL) {x0 o : Option Value} {t : List (Option Value)} {x : Nat} (hdg : decode cc pc = .ok (.astore_n 1, 1)) (k : Go p l e R s m args below meth c cells slots Q A D ad cI cL nL (pc + 1) (x0 :: some (.ref x) :: t) (st) (μ)) : Go p l e R s m args below meth c cells slots Q A D ad cI cL nL (pc) (x0 :: o :: t) (.ref x :: st) (μ) :=
  fun ls H locs hl hP hS => lv_astore_n C.1.1 C.1.2.1 hdg rfl (lh_has hl) (by have := hl.2.2.1; simp at this; omega) rfl (fun ls' h' => k ls' H locs (lh_set (i := 1) hl rfl (by simp) h') hP hS)
theorem go_iinc1 (C : Cx p l s m args meth c cc nL Ts own A D ad cI cL) {x0 : Option Value} {t : List (Option Value)} {x v : Int32} {n : Int} (hdg : decode cc pc = .ok (.iinc 1 n, 3)) (hv : Int32.ofInt n = v) (k : Go p l e R s m args below meth c cells slots Q A D ad cI cL nL (pc + 3) (x0 :: some (.int (x + v)) :: t) (st) (μ)) : Go p l e R s m args below meth c cells slots Q A D ad cI cL nL (pc) (x0 :: some (.int x) :: t) (st) (μ) := by
  subst hv
  intro ls H locs hl hP hS
  obtain ⟨kk, hk⟩ := lh_pos hl (i := 1) (v := .int x) rfl
  exact lv_iinc C.1.1 C.1.2.1 hdg (lh_has hl) hk rfl (by have := hl.2.2.1; simp at this; omega) rfl (fun ls' h' => k ls' H locs (lh_set (i := 1) hl rfl (by simp) h') hP hS)
theorem go_iload2 (C : Cx p l s m args meth c cc nL Ts own A D ad cI cL) {x0 x1 : Option Value} {t : List (Option Value)} {x : Int32} (hdg : decode cc pc = .ok (.iload_n 2, 1)) (k : Go p l e R s m args below meth c cells slots Q A D ad cI cL nL (pc + 1) (x0 :: x1 :: some (.int x) :: t) (.int x :: st) (μ)) : Go p l e R s m args below meth c cells slots Q A D ad cI cL nL (pc) (x0 :: x1 :: some (.int x) :: t) (st) (μ) :=
  fun ls H locs hl hP hS => lv_iload_n C.1.1 C.1.2.1 hdg rfl (lh_at hl rfl) (k ls H locs hl hP hS)
theorem go_istore2 (C : Cx p l s m args meth c cc nL Ts own A D ad cI cL) {x0 x1 o : Option Value} {t : List (Option Value)} {x : Int32} (hdg : decode cc pc = .ok (.istore_n 2, 1)) (k : Go p l e R s m args below meth c cells slots Q A D ad cI cL nL (pc + 1) (x0 :: x1 :: some (.int x) :: t) (st) (μ)) : Go p l e R s m args below meth c cells slots Q A D ad cI cL nL (pc) (x0 :: x1 :: o :: t) (.int x :: st) (μ) :=
  fun ls H locs hl hP hS => lv_istore_n C.1.1 C.1.2.1 hdg rfl (lh_has hl) (by have := hl.2.2.1; simp at this; omega) rfl (fun ls' h' => k ls' H locs (lh_set (i := 2) hl rfl (by simp) h') hP hS)
theorem go_aload2 (C : Cx p l s m args meth c cc nL Ts own A D ad cI cL) {x0 x1 : Option Value} {t : List (Option Value)} {x : Nat} (hdg : decode cc pc = .ok (.aload_n 2, 1)) (k : Go p l e R s m args below meth c cells slots Q A D ad cI cL nL (pc + 1) (x0 :: x1 :: some (.ref x) :: t) (.ref x :: st) (μ)) : Go p l e R s m args below meth c cells slots Q A D ad cI cL nL (pc) (x0 :: x1 :: some (.ref x) :: t) (st) (μ) :=
  fun ls H locs hl hP hS => lv_aload_n C.1.1 C.1.2.1 hdg rfl (lh_at hl rfl) (k ls H locs hl hP hS)
theorem go_astore2 (C : Cx p l s m args meth c cc nL Ts own A D ad cI cL) {x0 x1 o : Option Value} {t : List (Option Value)} {x : Nat} (hdg : decode cc pc = .ok (.astore_n 2, 1)) (k : Go p l e R s m args below meth c cells slots Q A D ad cI cL nL (pc + 1) (x0 :: x1 :: some (.ref x) :: t) (st) (μ)) : Go p l e R s m args below meth c cells slots Q A D ad cI cL nL (pc) (x0 :: x1 :: o :: t) (.ref x :: st) (μ) :=
  fun ls H locs hl hP hS => lv_astore_n C.1.1 C.1.2.1 hdg rfl (lh_has hl) (by have := hl.2.2.1; simp at this; omega) rfl (fun ls' h' => k ls' H locs (lh_set (i := 2) hl rfl (by simp) h') hP hS)
theorem go_iinc2 (C : Cx p l s m args meth c cc nL Ts own A D ad cI cL) {x0 x1 : Option Value} {t : List (Option Value)} {x v : Int32} {n : Int} (hdg : decode cc pc = .ok (.iinc 2 n, 3)) (hv : Int32.ofInt n = v) (k : Go p l e R s m args below meth c cells slots Q A D ad cI cL nL (pc + 3) (x0 :: x1 :: some (.int (x + v)) :: t) (st) (μ)) : Go p l e R s m args below meth c cells slots Q A D ad cI cL nL (pc) (x0 :: x1 :: some (.int x) :: t) (st) (μ) := by
  subst hv
  intro ls H locs hl hP hS
  obtain ⟨kk, hk⟩ := lh_pos hl (i := 2) (v := .int x) rfl
  exact lv_iinc C.1.1 C.1.2.1 hdg (lh_has hl) hk rfl (by have := hl.2.2.1; simp at this; omega) rfl (fun ls' h' => k ls' H locs (lh_set (i := 2) hl rfl (by simp) h') hP hS)
theorem go_iload3 (C : Cx p l s m args meth c cc nL Ts own A D ad cI cL) {x0 x1 x2 : Option Value} {t : List (Option Value)} {x : Int32} (hdg : decode cc pc = .ok (.iload_n 3, 1)) (k : Go p l e R s m args below meth c cells slots Q A D ad cI cL nL (pc + 1) (x0 :: x1 :: x2 :: some (.int x) :: t) (.int x :: st) (μ)) : Go p l e R s m args below meth c cells slots Q A D ad cI cL nL (pc) (x0 :: x1 :: x2 :: some (.int x) :: t) (st) (μ) :=
  fun ls H locs hl hP hS => lv_iload_n C.1.1 C.1.2.1 hdg rfl (lh_at hl rfl) (k ls H locs hl hP hS)
theorem go_istore3 (C : Cx p l s m args meth c cc nL Ts own A D ad cI cL) {x0 x1 x2 o : Option Value} {t : List (Option Value)} {x : Int32} (hdg : decode cc pc = .ok (.istore_n 3, 1)) (k : Go p l e R s m args below meth c cells slots Q A D ad cI cL nL (pc + 1) (x0 :: x1 :: x2 :: some (.int x) :: t) (st) (μ)) : Go p l e R s m args below meth c cells slots Q A D ad cI cL nL (pc) (x0 :: x1 :: x2 :: o :: t) (.int x :: st) (μ) :=
  fun ls H locs hl hP hS => lv_istore_n C.1.1 C.1.2.1 hdg rfl (lh_has hl) (by have := hl.2.2.1; simp at this; omega) rfl (fun ls' h' => k ls' H locs (lh_set (i := 3) hl rfl (by simp) h') hP hS)
theorem go_aload3 (C : Cx p l s m args meth c cc nL Ts own A D ad cI cL) {x0 x1 x2 : Option Value} {t : List (Option Value)} {x : Nat} (hdg : decode cc pc = .ok (.aload_n 3, 1)) (k : Go p l e R s m args below meth c cells slots Q A D ad cI cL nL (pc + 1) (x0 :: x1 :: x2 :: some (.ref x) :: t) (.ref x :: st) (μ)) : Go p l e R s m args below meth c cells slots Q A D ad cI cL nL (pc) (x0 :: x1 :: x2 :: some (.ref x) :: t) (st) (μ) :=
  fun ls H locs hl hP hS => lv_aload_n C.1.1 C.1.2.1 hdg rfl (lh_at hl rfl) (k ls H locs hl hP hS)
theorem go_astore3 (C : Cx p l s m args meth c cc nL Ts own A D ad cI cL) {x0 x1 x2 o : Option Value} {t : List (Option Value)} {x : Nat} (hdg : decode cc pc = .ok (.astore_n 3, 1)) (k : Go p l e R s m args below meth c cells slots Q A D ad cI cL nL (pc + 1) (x0 :: x1 :: x2 :: some (.ref x) :: t) (st) (μ)) : Go p l e R s m args below meth c cells slots Q A D ad cI cL nL (pc) (x0 :: x1 :: x2 :: o :: t) (.ref x :: st) (μ) :=
  fun ls H locs hl hP hS => lv_astore_n C.1.1 C.1.2.1 hdg rfl (lh_has hl) (by have := hl.2.2.1; simp at this; omega) rfl (fun ls' h' => k ls' H locs (lh_set (i := 3) hl rfl (by simp) h') hP hS)
theorem go_iinc3 (C : Cx p l s m args meth c cc nL Ts own A D ad cI cL) {x0 x1 x2 : Option Value} {t : List (Option Value)} {x v : Int32} {n : Int} (hdg : decode cc pc = .ok (.iinc 3 n, 3)) (hv : Int32.ofInt n = v) (k : Go p l e R s m args below meth c cells slots Q A D ad cI cL nL (pc + 3) (x0 :: x1 :: x2 :: some (.int (x + v)) :: t) (st) (μ)) : Go p l e R s m args below meth c cells slots Q A D ad cI cL nL (pc) (x0 :: x1 :: x2 :: some (.int x) :: t) (st) (μ) := by
  subst hv
  intro ls H locs hl hP hS
  obtain ⟨kk, hk⟩ := lh_pos hl (i := 3) (v := .int x) rfl
  exact lv_iinc C.1.1 C.1.2.1 hdg (lh_has hl) hk rfl (by have := hl.2.2.1; simp at this; omega) rfl (fun ls' h' => k ls' H locs (lh_set (i := 3) hl rfl (by simp) h') hP hS)
theorem go_iload4 (C : Cx p l s m args meth c cc nL Ts own A D ad cI cL) {x0 x1 x2 x3 : Option Value} {t : List (Option Value)} {x : Int32} (hdg : decode cc pc = .ok (.iload 4, 2)) (k : Go p l e R s m args below meth c cells slots Q A D ad cI cL nL (pc + 2) (x0 :: x1 :: x2 :: x3 :: some (.int x) :: t) (.int x :: st) (μ)) : Go p l e R s m args below meth c cells slots Q A D ad cI cL nL (pc) (x0 :: x1 :: x2 :: x3 :: some (.int x) :: t) (st) (μ) :=
  fun ls H locs hl hP hS => lv_iload C.1.1 C.1.2.1 hdg (lh_at hl rfl) (k ls H locs hl hP hS)
theorem go_istore4 (C : Cx p l s m args meth c cc nL Ts own A D ad cI cL) {x0 x1 x2 x3 o : Option Value} {t : List (Option Value)} {x : Int32} (hdg : decode cc pc = .ok (.istore 4, 2)) (k : Go p l e R s m args below meth c cells slots Q A D ad cI cL nL (pc + 2) (x0 :: x1 :: x2 :: x3 :: some (.int x) :: t) (st) (μ)) : Go p l e R s m args below meth c cells slots Q A D ad cI cL nL (pc) (x0 :: x1 :: x2 :: x3 :: o :: t) (.int x :: st) (μ) :=
  fun ls H locs hl hP hS => lv_istore C.1.1 C.1.2.1 hdg (lh_has hl) (by have := hl.2.2.1; simp at this; omega) rfl (fun ls' h' => k ls' H locs (lh_set (i := 4) hl rfl (by simp) h') hP hS)
theorem go_aload4 (C : Cx p l s m args meth c cc nL Ts own A D ad cI cL) {x0 x1 x2 x3 : Option Value} {t : List (Option Value)} {x : Nat} (hdg : decode cc pc = .ok (.aload 4, 2)) (k : Go p l e R s m args below meth c cells slots Q A D ad cI cL nL (pc + 2) (x0 :: x1 :: x2 :: x3 :: some (.ref x) :: t) (.ref x :: st) (μ)) : Go p l e R s m args below meth c cells slots Q A D ad cI cL nL (pc) (x0 :: x1 :: x2 :: x3 :: some (.ref x) :: t) (st) (μ) :=
  fun ls H locs hl hP hS => lv_aload C.1.1 C.1.2.1 hdg (lh_at hl rfl) (k ls H locs hl hP hS)
theorem go_astore4 (C : Cx p l s m args meth c cc nL Ts own A D ad cI cL) {x0 x1 x2 x3 o : Option Value} {t : List (Option Value)} {x : Nat} (hdg : decode cc pc = .ok (.astore 4, 2)) (k : Go p l e R s m args below meth c cells slots Q A D ad cI cL nL (pc + 2) (x0 :: x1 :: x2 :: x3 :: some (.ref x) :: t) (st) (μ)) : Go p l e R s m args below meth c cells slots Q A D ad cI cL nL (pc) (x0 :: x1 :: x2 :: x3 :: o :: t) (.ref x :: st) (μ) :=
  fun ls H locs hl hP hS => lv_astore C.1.1 C.1.2.1 hdg (lh_has hl) (by have := hl.2.2.1; simp at this; omega) rfl (fun ls' h' => k ls' H locs (lh_set (i := 4) hl rfl (by simp) h') hP hS)
theorem go_iinc4 (C : Cx p l s m args meth c cc nL Ts own A D ad cI cL) {x0 x1 x2 x3 : Option Value} {t : List (Option Value)} {x v : Int32} {n : Int} (hdg : decode cc pc = .ok (.iinc 4 n, 3)) (hv : Int32.ofInt n = v) (k : Go p l e R s m args below meth c cells slots Q A D ad cI cL nL (pc + 3) (x0 :: x1 :: x2 :: x3 :: some (.int (x + v)) :: t) (st) (μ)) : Go p l e R s m args below meth c cells slots Q A D ad cI cL nL (pc) (x0 :: x1 :: x2 :: x3 :: some (.int x) :: t) (st) (μ) := by
  subst hv
  intro ls H locs hl hP hS
  obtain ⟨kk, hk⟩ := lh_pos hl (i := 4) (v := .int x) rfl
  exact lv_iinc C.1.1 C.1.2.1 hdg (lh_has hl) hk rfl (by have := hl.2.2.1; simp at this; omega) rfl (fun ls' h' => k ls' H locs (lh_set (i := 4) hl rfl (by simp) h') hP hS)
theorem go_iload5 (C : Cx p l s m args meth c cc nL Ts own A D ad cI cL) {x0 x1 x2 x3 x4 : Option Value} {t : List (Option Value)} {x : Int32} (hdg : decode cc pc = .ok (.iload 5, 2)) (k : Go p l e R s m args below meth c cells slots Q A D ad cI cL nL (pc + 2) (x0 :: x1 :: x2 :: x3 :: x4 :: some (.int x) :: t) (.int x :: st) (μ)) : Go p l e R s m args below meth c cells slots Q A D ad cI cL nL (pc) (x0 :: x1 :: x2 :: x3 :: x4 :: some (.int x) :: t) (st) (μ) :=
  fun ls H locs hl hP hS => lv_iload C.1.1 C.1.2.1 hdg (lh_at hl rfl) (k ls H locs hl hP hS)
theorem go_istore5 (C : Cx p l s m args meth c cc nL Ts own A D ad cI cL) {x0 x1 x2 x3 x4 o : Option Value} {t : List (Option Value)} {x : Int32} (hdg : decode cc pc = .ok (.istore 5, 2)) (k : Go p l e R s m args below meth c cells slots Q A D ad cI cL nL (pc + 2) (x0 :: x1 :: x2 :: x3 :: x4 :: some (.int x) :: t) (st) (μ)) : Go p l e R s m args below meth c cells slots Q A D ad cI cL nL (pc) (x0 :: x1 :: x2 :: x3 :: x4 :: o :: t) (.int x :: st) (μ) :=
  fun ls H locs hl hP hS => lv_istore C.1.1 C.1.2.1 hdg (lh_has hl) (by have := hl.2.2.1; simp at this; omega) rfl (fun ls' h' => k ls' H locs (lh_set (i := 5) hl rfl (by simp) h') hP hS)
theorem go_aload5 (C : Cx p l s m args meth c cc nL Ts own A D ad cI cL) {x0 x1 x2 x3 x4 : Option Value} {t : List (Option Value)} {x : Nat} (hdg : decode cc pc = .ok (.aload 5, 2)) (k : Go p l e R s m args below meth c cells slots Q A D ad cI cL nL (pc + 2) (x0 :: x1 :: x2 :: x3 :: x4 :: some (.ref x) :: t) (.ref x :: st) (μ)) : Go p l e R s m args below meth c cells slots Q A D ad cI cL nL (pc) (x0 :: x1 :: x2 :: x3 :: x4 :: some (.ref x) :: t) (st) (μ) :=
  fun ls H locs hl hP hS => lv_aload C.1.1 C.1.2.1 hdg (lh_at hl rfl) (k ls H locs hl hP hS)
theorem go_astore5 (C : Cx p l s m args meth c cc nL Ts own A D ad cI cL) {x0 x1 x2 x3 x4 o : Option Value} {t : List (Option Value)} {x : Nat} (hdg : decode cc pc = .ok (.astore 5, 2)) (k : Go p l e R s m args below meth c cells slots Q A D ad cI cL nL (pc + 2) (x0 :: x1 :: x2 :: x3 :: x4 :: some (.ref x) :: t) (st) (μ)) : Go p l e R s m args below meth c cells slots Q A D ad cI cL nL (pc) (x0 :: x1 :: x2 :: x3 :: x4 :: o :: t) (.ref x :: st) (μ) :=
  fun ls H locs hl hP hS => lv_astore C.1.1 C.1.2.1 hdg (lh_has hl) (by have := hl.2.2.1; simp at this; omega) rfl (fun ls' h' => k ls' H locs (lh_set (i := 5) hl rfl (by simp) h') hP hS)
theorem go_iinc5 (C : Cx p l s m args meth c cc nL Ts own A D ad cI cL) {x0 x1 x2 x3 x4 : Option Value} {t : List (Option Value)} {x v : Int32} {n : Int} (hdg : decode cc pc = .ok (.iinc 5 n, 3)) (hv : Int32.ofInt n = v) (k : Go p l e R s m args below meth c cells slots Q A D ad cI cL nL (pc + 3) (x0 :: x1 :: x2 :: x3 :: x4 :: some (.int (x + v)) :: t) (st) (μ)) : Go p l e R s m args below meth c cells slots Q A D ad cI cL nL (pc) (x0 :: x1 :: x2 :: x3 :: x4 :: some (.int x) :: t) (st) (μ) := by
  subst hv
  intro ls H locs hl hP hS
  obtain ⟨kk, hk⟩ := lh_pos hl (i := 5) (v := .int x) rfl
  exact lv_iinc C.1.1 C.1.2.1 hdg (lh_has hl) hk rfl (by have := hl.2.2.1; simp at this; omega) rfl (fun ls' h' => k ls' H locs (lh_set (i := 5) hl rfl (by simp) h') hP hS)
theorem go_iload6 (C : Cx p l s m args meth c cc nL Ts own A D ad cI cL) {x0 x1 x2 x3 x4 x5 : Option Value} {t : List (Option Value)} {x : Int32} (hdg : decode cc pc = .ok (.iload 6, 2)) (k : Go p l e R s m args below meth c cells slots Q A D ad cI cL nL (pc + 2) (x0 :: x1 :: x2 :: x3 :: x4 :: x5 :: some (.int x) :: t) (.int x :: st) (μ)) : Go p l e R s m args below meth c cells slots Q A D ad cI cL nL (pc) (x0 :: x1 :: x2 :: x3 :: x4 :: x5 :: some (.int x) :: t) (st) (μ) :=
  fun ls H locs hl hP hS => lv_iload C.1.1 C.1.2.1 hdg (lh_at hl rfl) (k ls H locs hl hP hS)
theorem go_istore6 (C : Cx p l s m args meth c cc nL Ts own A D ad cI cL) {x0 x1 x2 x3 x4 x5 o : Option Value} {t : List (Option Value)} {x : Int32} (hdg : decode cc pc = .ok (.istore 6, 2)) (k : Go p l e R s m args below meth c cells slots Q A D ad cI cL nL (pc + 2) (x0 :: x1 :: x2 :: x3 :: x4 :: x5 :: some (.int x) :: t) (st) (μ)) : Go p l e R s m args below meth c cells slots Q A D ad cI cL nL (pc) (x0 :: x1 :: x2 :: x3 :: x4 :: x5 :: o :: t) (.int x :: st) (μ) :=
  fun ls H locs hl hP hS => lv_istore C.1.1 C.1.2.1 hdg (lh_has hl) (by have := hl.2.2.1; simp at this; omega) rfl (fun ls' h' => k ls' H locs (lh_set (i := 6) hl rfl (by simp) h') hP hS)
theorem go_aload6 (C : Cx p l s m args meth c cc nL Ts own A D ad cI cL) {x0 x1 x2 x3 x4 x5 : Option Value} {t : List (Option Value)} {x : Nat} (hdg : decode cc pc = .ok (.aload 6, 2)) (k : Go p l e R s m args below meth c cells slots Q A D ad cI cL nL (pc + 2) (x0 :: x1 :: x2 :: x3 :: x4 :: x5 :: some (.ref x) :: t) (.ref x :: st) (μ)) : Go p l e R s m args below meth c cells slots Q A D ad cI cL nL (pc) (x0 :: x1 :: x2 :: x3 :: x4 :: x5 :: some (.ref x) :: t) (st) (μ) :=
  fun ls H locs hl hP hS => lv_aload C.1.1 C.1.2.1 hdg (lh_at hl rfl) (k ls H locs hl hP hS)
theorem go_astore6 (C : Cx p l s m args meth c cc nL Ts own A D ad cI cL) {x0 x1 x2 x3 x4 x5 o : Option Value} {t : List (Option Value)} {x : Nat} (hdg : decode cc pc = .ok (.astore 6, 2)) (k : Go p l e R s m args below meth c cells slots Q A D ad cI cL nL (pc + 2) (x0 :: x1 :: x2 :: x3 :: x4 :: x5 :: some (.ref x) :: t) (st) (μ)) : Go p l e R s m args below meth c cells slots Q A D ad cI cL nL (pc) (x0 :: x1 :: x2 :: x3 :: x4 :: x5 :: o :: t) (.ref x :: st) (μ) :=
  fun ls H locs hl hP hS => lv_astore C.1.1 C.1.2.1 hdg (lh_has hl) (by have := hl.2.2.1; simp at this; omega) rfl (fun ls' h' => k ls' H locs (lh_set (i := 6) hl rfl (by simp) h') hP hS)
theorem go_iinc6 (C : Cx p l s m args meth c cc nL Ts own A D ad cI cL) {x0 x1 x2 x3 x4 x5 : Option Value} {t : List (Option Value)} {x v : Int32} {n : Int} (hdg : decode cc pc = .ok (.iinc 6 n, 3)) (hv : Int32.ofInt n = v) (k : Go p l e R s m args below meth c cells slots Q A D ad cI cL nL (pc + 3) (x0 :: x1 :: x2 :: x3 :: x4 :: x5 :: some (.int (x + v)) :: t) (st) (μ)) : Go p l e R s m args below meth c cells slots Q A D ad cI cL nL (pc) (x0 :: x1 :: x2 :: x3 :: x4 :: x5 :: some (.int x) :: t) (st) (μ) := by
  subst hv
  intro ls H locs hl hP hS
  obtain ⟨kk, hk⟩ := lh_pos hl (i := 6) (v := .int x) rfl
  exact lv_iinc C.1.1 C.1.2.1 hdg (lh_has hl) hk rfl (by have := hl.2.2.1; simp at this; omega) rfl (fun ls' h' => k ls' H locs (lh_set (i := 6) hl rfl (by simp) h') hP hS)
theorem go_iload7 (C : Cx p l s m args meth c cc nL Ts own A D ad cI cL) {x0 x1 x2 x3 x4 x5 x6 : Option Value} {t : List (Option Value)} {x : Int32} (hdg : decode cc pc = .ok (.iload 7, 2)) (k : Go p l e R s m args below meth c cells slots Q A D ad cI cL nL (pc + 2) (x0 :: x1 :: x2 :: x3 :: x4 :: x5 :: x6 :: some (.int x) :: t) (.int x :: st) (μ)) : Go p l e R s m args below meth c cells slots Q A D ad cI cL nL (pc) (x0 :: x1 :: x2 :: x3 :: x4 :: x5 :: x6 :: some (.int x) :: t) (st) (μ) :=
  fun ls H locs hl hP hS => lv_iload C.1.1 C.1.2.1 hdg (lh_at hl rfl) (k ls H locs hl hP hS)
theorem go_istore7 (C : Cx p l s m args meth c cc nL Ts own A D ad cI cL) {x0 x1 x2 x3 x4 x5 x6 o : Option Value} {t : List (Option Value)} {x : Int32} (hdg : decode cc pc = .ok (.istore 7, 2)) (k : Go p l e R s m args below meth c cells slots Q A D ad cI cL nL (pc + 2) (x0 :: x1 :: x2 :: x3 :: x4 :: x5 :: x6 :: some (.int x) :: t) (st) (μ)) : Go p l e R s m args below meth c cells slots Q A D ad cI cL nL (pc) (x0 :: x1 :: x2 :: x3 :: x4 :: x5 :: x6 :: o :: t) (.int x :: st) (μ) :=
  fun ls H locs hl hP hS => lv_istore C.1.1 C.1.2.1 hdg (lh_has hl) (by have := hl.2.2.1; simp at this; omega) rfl (fun ls' h' => k ls' H locs (lh_set (i := 7) hl rfl (by simp) h') hP hS)
theorem go_aload7 (C : Cx p l s m args meth c cc nL Ts own A D ad cI cL) {x0 x1 x2 x3 x4 x5 x6 : Option Value} {t : List (Option Value)} {x : Nat} (hdg : decode cc pc = .ok (.aload 7, 2)) (k : Go p l e R s m args below meth c cells slots Q A D ad cI cL nL (pc + 2) (x0 :: x1 :: x2 :: x3 :: x4 :: x5 :: x6 :: some (.ref x) :: t) (.ref x :: st) (μ)) : Go p l e R s m args below meth c cells slots Q A D ad cI cL nL (pc) (x0 :: x1 :: x2 :: x3 :: x4 :: x5 :: x6 :: some (.ref x) :: t) (st) (μ) :=
  fun ls H locs hl hP hS => lv_aload C.1.1 C.1.2.1 hdg (lh_at hl rfl) (k ls H locs hl hP hS)
theorem go_astore7 (C : Cx p l s m args meth c cc nL Ts own A D ad cI cL) {x0 x1 x2 x3 x4 x5 x6 o : Option Value} {t : List (Option Value)} {x : Nat} (hdg : decode cc pc = .ok (.astore 7, 2)) (k : Go p l e R s m args below meth c cells slots Q A D ad cI cL nL (pc + 2) (x0 :: x1 :: x2 :: x3 :: x4 :: x5 :: x6 :: some (.ref x) :: t) (st) (μ)) : Go p l e R s m args below meth c cells slots Q A D ad cI cL nL (pc) (x0 :: x1 :: x2 :: x3 :: x4 :: x5 :: x6 :: o :: t) (.ref x :: st) (μ) :=
  fun ls H locs hl hP hS => lv_astore C.1.1 C.1.2.1 hdg (lh_has hl) (by have := hl.2.2.1; simp at this; omega) rfl (fun ls' h' => k ls' H locs (lh_set (i := 7) hl rfl (by simp) h') hP hS)
theorem go_iinc7 (C : Cx p l s m args meth c cc nL Ts own A D ad cI cL) {x0 x1 x2 x3 x4 x5 x6 : Option Value} {t : List (Option Value)} {x v : Int32} {n : Int} (hdg : decode cc pc = .ok (.iinc 7 n, 3)) (hv : Int32.ofInt n = v) (k : Go p l e R s m args below meth c cells slots Q A D ad cI cL nL (pc + 3) (x0 :: x1 :: x2 :: x3 :: x4 :: x5 :: x6 :: some (.int (x + v)) :: t) (st) (μ)) : Go p l e R s m args below meth c cells slots Q A D ad cI cL nL (pc) (x0 :: x1 :: x2 :: x3 :: x4 :: x5 :: x6 :: some (.int x) :: t) (st) (μ) := by
  subst hv
  intro ls H locs hl hP hS
  obtain ⟨kk, hk⟩ := lh_pos hl (i := 7) (v := .int x) rfl
  exact lv_iinc C.1.1 C.1.2.1 hdg (lh_has hl) hk rfl (by have := hl.2.2.1; simp at this; omega) rfl (fun ls' h' => k ls' H locs (lh_set (i := 7) hl rfl (by simp) h') hP hS)
theorem go_iload8 (C : Cx p l s m args meth c cc nL Ts own A D ad cI cL) {x0 x1 x2 x3 x4 x5 x6 x7 : Option Value} {t : List (Option Value)} {x : Int32} (hdg : decode cc pc = .ok (.iload 8, 2)) (k : Go p l e R s m args below meth c cells slots Q A D ad cI cL nL (pc + 2) (x0 :: x1 :: x2 :: x3 :: x4 :: x5 :: x6 :: x7 :: some (.int x) :: t) (.int x :: st) (μ)) : Go p l e R s m args below meth c cells slots Q A D ad cI cL nL (pc) (x0 :: x1 :: x2 :: x3 :: x4 :: x5 :: x6 :: x7 :: some (.int x) :: t) (st) (μ) :=
  fun ls H locs hl hP hS => lv_iload C.1.1 C.1.2.1 hdg (lh_at hl rfl) (k ls H locs hl hP hS)
theorem go_istore8 (C : Cx p l s m args meth c cc nL Ts own A D ad cI cL) {x0 x1 x2 x3 x4 x5 x6 x7 o : Option Value} {t : List (Option Value)} {x : Int32} (hdg : decode cc pc = .ok (.istore 8, 2)) (k : Go p l e R s m args below meth c cells slots Q A D ad cI cL nL (pc + 2) (x0 :: x1 :: x2 :: x3 :: x4 :: x5 :: x6 :: x7 :: some (.int x) :: t) (st) (μ)) : Go p l e R s m args below meth c cells slots Q A D ad cI cL nL (pc) (x0 :: x1 :: x2 :: x3 :: x4 :: x5 :: x6 :: x7 :: o :: t) (.int x :: st) (μ) :=
  fun ls H locs hl hP hS => lv_istore C.1.1 C.1.2.1 hdg (lh_has hl) (by have := hl.2.2.1; simp at this; omega) rfl (fun ls' h' => k ls' H locs (lh_set (i := 8) hl rfl (by simp) h') hP hS)
theorem go_aload8 (C : Cx p l s m args meth c cc nL Ts own A D ad cI cL) {x0 x1 x2 x3 x4 x5 x6 x7 : Option Value} {t : List (Option Value)} {x : Nat} (hdg : decode cc pc = .ok (.aload 8, 2)) (k : Go p l e R s m args below meth c cells slots Q A D ad cI cL nL (pc + 2) (x0 :: x1 :: x2 :: x3 :: x4 :: x5 :: x6 :: x7 :: some (.ref x) :: t) (.ref x :: st) (μ)) : Go p l e R s m args below meth c cells slots Q A D ad cI cL nL (pc) (x0 :: x1 :: x2 :: x3 :: x4 :: x5 :: x6 :: x7 :: some (.ref x) :: t) (st) (μ) :=
  fun ls H locs hl hP hS => lv_aload C.1.1 C.1.2.1 hdg (lh_at hl rfl) (k ls H locs hl hP hS)
theorem go_astore8 (C : Cx p l s m args meth c cc nL Ts own A D ad cI cL) {x0 x1 x2 x3 x4 x5 x6 x7 o : Option Value} {t : List (Option Value)} {x : Nat} (hdg : decode cc pc = .ok (.astore 8, 2)) (k : Go p l e R s m args below meth c cells slots Q A D ad cI cL nL (pc + 2) (x0 :: x1 :: x2 :: x3 :: x4 :: x5 :: x6 :: x7 :: some (.ref x) :: t) (st) (μ)) : Go p l e R s m args below meth c cells slots Q A D ad cI cL nL (pc) (x0 :: x1 :: x2 :: x3 :: x4 :: x5 :: x6 :: x7 :: o :: t) (.ref x :: st) (μ) :=
  fun ls H locs hl hP hS => lv_astore C.1.1 C.1.2.1 hdg (lh_has hl) (by have := hl.2.2.1; simp at this; omega) rfl (fun ls' h' => k ls' H locs (lh_set (i := 8) hl rfl (by simp) h') hP hS)
theorem go_iinc8 (C : Cx p l s m args meth c cc nL Ts own A D ad cI cL) {x0 x1 x2 x3 x4 x5 x6 x7 : Option Value} {t : List (Option Value)} {x v : Int32} {n : Int} (hdg : decode cc pc = .ok (.iinc 8 n, 3)) (hv : Int32.ofInt n = v) (k : Go p l e R s m args below meth c cells slots Q A D ad cI cL nL (pc + 3) (x0 :: x1 :: x2 :: x3 :: x4 :: x5 :: x6 :: x7 :: some (.int (x + v)) :: t) (st) (μ)) : Go p l e R s m args below meth c cells slots Q A D ad cI cL nL (pc) (x0 :: x1 :: x2 :: x3 :: x4 :: x5 :: x6 :: x7 :: some (.int x) :: t) (st) (μ) := by
  subst hv
  intro ls H locs hl hP hS
  obtain ⟨kk, hk⟩ := lh_pos hl (i := 8) (v := .int x) rfl
  exact lv_iinc C.1.1 C.1.2.1 hdg (lh_has hl) hk rfl (by have := hl.2.2.1; simp at this; omega) rfl (fun ls' h' => k ls' H locs (lh_set (i := 8) hl rfl (by simp) h') hP hS)
theorem go_iload9 (C : Cx p l s m args meth c cc nL Ts own A D ad cI cL) {x0 x1 x2 x3 x4 x5 x6 x7 x8 : Option Value} {t : List (Option Value)} {x : Int32} (hdg : decode cc pc = .ok (.iload 9, 2)) (k : Go p l e R s m args below meth c cells slots Q A D ad cI cL nL (pc + 2) (x0 :: x1 :: x2 :: x3 :: x4 :: x5 :: x6 :: x7 :: x8 :: some (.int x) :: t) (.int x :: st) (μ)) : Go p l e R s m args below meth c cells slots Q A D ad cI cL nL (pc) (x0 :: x1 :: x2 :: x3 :: x4 :: x5 :: x6 :: x7 :: x8 :: some (.int x) :: t) (st) (μ) :=
  fun ls H locs hl hP hS => lv_iload C.1.1 C.1.2.1 hdg (lh_at hl rfl) (k ls H locs hl hP hS)
theorem go_istore9 (C : Cx p l s m args meth c cc nL Ts own A D ad cI cL) {x0 x1 x2 x3 x4 x5 x6 x7 x8 o : Option Value} {t : List (Option Value)} {x : Int32} (hdg : decode cc pc = .ok (.istore 9, 2)) (k : Go p l e R s m args below meth c cells slots Q A D ad cI cL nL (pc + 2) (x0 :: x1 :: x2 :: x3 :: x4 :: x5 :: x6 :: x7 :: x8 :: some (.int x) :: t) (st) (μ)) : Go p l e R s m args below meth c cells slots Q A D ad cI cL nL (pc) (x0 :: x1 :: x2 :: x3 :: x4 :: x5 :: x6 :: x7 :: x8 :: o :: t) (.int x :: st) (μ) :=
  fun ls H locs hl hP hS => lv_istore C.1.1 C.1.2.1 hdg (lh_has hl) (by have := hl.2.2.1; simp at this; omega) rfl (fun ls' h' => k ls' H locs (lh_set (i := 9) hl rfl (by simp) h') hP hS)
theorem go_aload9 (C : Cx p l s m args meth c cc nL Ts own A D ad cI cL) {x0 x1 x2 x3 x4 x5 x6 x7 x8 : Option Value} {t : List (Option Value)} {x : Nat} (hdg : decode cc pc = .ok (.aload 9, 2)) (k : Go p l e R s m args below meth c cells slots Q A D ad cI cL nL (pc + 2) (x0 :: x1 :: x2 :: x3 :: x4 :: x5 :: x6 :: x7 :: x8 :: some (.ref x) :: t) (.ref x :: st) (μ)) : Go p l e R s m args below meth c cells slots Q A D ad cI cL nL (pc) (x0 :: x1 :: x2 :: x3 :: x4 :: x5 :: x6 :: x7 :: x8 :: some (.ref x) :: t) (st) (μ) :=
  fun ls H locs hl hP hS => lv_aload C.1.1 C.1.2.1 hdg (lh_at hl rfl) (k ls H locs hl hP hS)
theorem go_astore9 (C : Cx p l s m args meth c cc nL Ts own A D ad cI cL) {x0 x1 x2 x3 x4 x5 x6 x7 x8 o : Option Value} {t : List (Option Value)} {x : Nat} (hdg : decode cc pc = .ok (.astore 9, 2)) (k : Go p l e R s m args below meth c cells slots Q A D ad cI cL nL (pc + 2) (x0 :: x1 :: x2 :: x3 :: x4 :: x5 :: x6 :: x7 :: x8 :: some (.ref x) :: t) (st) (μ)) : Go p l e R s m args below meth c cells slots Q A D ad cI cL nL (pc) (x0 :: x1 :: x2 :: x3 :: x4 :: x5 :: x6 :: x7 :: x8 :: o :: t) (.ref x :: st) (μ) :=
  fun ls H locs hl hP hS => lv_astore C.1.1 C.1.2.1 hdg (lh_has hl) (by have := hl.2.2.1; simp at this; omega) rfl (fun ls' h' => k ls' H locs (lh_set (i := 9) hl rfl (by simp) h') hP hS)
theorem go_iinc9 (C : Cx p l s m args meth c cc nL Ts own A D ad cI cL) {x0 x1 x2 x3 x4 x5 x6 x7 x8 : Option Value} {t : List (Option Value)} {x v : Int32} {n : Int} (hdg : decode cc pc = .ok (.iinc 9 n, 3)) (hv : Int32.ofInt n = v) (k : Go p l e R s m args below meth c cells slots Q A D ad cI cL nL (pc + 3) (x0 :: x1 :: x2 :: x3 :: x4 :: x5 :: x6 :: x7 :: x8 :: some (.int (x + v)) :: t) (st) (μ)) : Go p l e R s m args below meth c cells slots Q A D ad cI cL nL (pc) (x0 :: x1 :: x2 :: x3 :: x4 :: x5 :: x6 :: x7 :: x8 :: some (.int x) :: t) (st) (μ) := by
  subst hv
  intro ls H locs hl hP hS
  obtain ⟨kk, hk⟩ := lh_pos hl (i := 9) (v := .int x) rfl
  exact lv_iinc C.1.1 C.1.2.1 hdg (lh_has hl) hk rfl (by have := hl.2.2.1; simp at this; omega) rfl (fun ls' h' => k ls' H locs (lh_set (i := 9) hl rfl (by simp) h') hP hS)
theorem go_get (C : Cx p l s m args meth c cc nL Ts own A D ad cI cL) {ref Cn : String} {T : u_T} {N ci index : Nat} {fs : List Value} {v : Value} (k : Nat) (hk : k < 25) (hs : shp ad cI cL k (μ k) = .inr (ci, fs)) (hc : vwCl[ci]? = some (Cn, T, N)) (j : Nat) (hj : j < N) (href : (T j).1 = ref) (hv : fs[j]? = some v) (hin : ∀ w ∈ u_ws Cn T N, w ∈ Ts) (hlink : Cond.fieldLink own index ref (T j).2.1 (T j).2.2.1 ∈ Ts)
    (hdg : decode cc pc = .ok (.getfield index, 3)) (kk : Go p l e R s m args below meth c cells slots Q A D ad cI cL nL (pc + 3) (lv) (v :: st) (μ)) : Go p l e R s m args below meth c cells slots Q A D ad cI cL nL (pc) (lv) (.ref (ad k) :: st) (μ) :=
  fun ls H locs hl hP hS => va_get (q0 := k) C.1.1 C.1.2.1 C.1.2.2.2.2 hin C.1.2.2.2.1 C.2.2.1 hP (by rw [wd_get _ _ _ _ hk, hs]) hc j hj (C.1.2.2.2.2 _ hlink) (fun _ h => by rw [← href]; exact h) hv hdg (kk ls H locs hl hP hS)
theorem go_getN (C : Cx p l s m args meth c cc nL Ts own A D ad cI cL) {ref Cn host : String} {T : u_T} {N ci index : Nat} {fs : List Value} {v : Value} (k : Nat) (hk : k < 25) (hs : shp ad cI cL k (μ k) = .inr (ci, fs)) (hc : vwCl[ci]? = some (Cn, T, N)) (j : Nat) (hj : j < N) (href : (T j).1 = ref) (hv : fs[j]? = some v) (hin : ∀ w ∈ u_ws Cn T N, w ∈ Ts) (hlink : (own, index, ref, (T j).2.1, (T j).2.2.1, host) ∈ nestF)
    (hdg : decode cc pc = .ok (.getfield index, 3)) (kk : Go p l e R s m args below meth c cells slots Q A D ad cI cL nL (pc + 3) (lv) (v :: st) (μ)) : Go p l e R s m args below meth c cells slots Q A D ad cI cL nL (pc) (lv) (.ref (ad k) :: st) (μ) :=
  fun ls H locs hl hP hS => va_getN (q0 := k) C.1.1 C.1.2.1 C.1.2.2.2.2 hin C.1.2.2.2.1 C.2.2.1 hP (by rw [wd_get _ _ _ _ hk, hs]) hc j hj (va_Nw.use rfl (C.2.2.2.1.1 _ hlink)) (fun _ h => by rw [← href]; exact h) hv hdg (kk ls H locs hl hP hS)
theorem go_put (C : Cx p l s m args meth c cc nL Ts own A D ad cI cL) {ref Cn : String} {T : u_T} {ty0 : Nat → FieldType} {N ci index : Nat} {fs : List Value} {x : Int32} (k : Nat) (hk : k < 25) (hs : shp ad cI cL k (μ k) = .inr (ci, fs)) (hc : vwCl[ci]? = some (Cn, T, N)) (j : Nat) (hj : j < N) (href : (T j).1 = ref) (hin : ∀ w ∈ u_ws Cn T N, w ∈ Ts) (hlink : Cond.fieldLink own index ref (T j).2.1 (T j).2.2.1 ∈ Ts)
    (hty : ∀ k, k < N → parseFieldDescriptor (T k).2.2.1 = some (ty0 k)) (hnm : ∀ a, a < N → ∀ b, b < N → a ≠ b → (T a).2.1 ≠ (T b).2.1) (hfin : (T j).2.2.2 = false) (hn : narrow (ty0 j) (.int x) = .int x) (hfit : fits (ty0 j) (.int x) = true) (hl : j < fs.length) (hset : .inr (ci, fs.set j (.int x)) = shp ad cI cL k (upd (μ k) j x))
    (hdg : decode cc pc = .ok (.putfield index, 3)) (kk : Go p l e R s m args below meth c cells slots Q A D ad cI cL nL (pc + 3) (lv) (st) (mset μ k (upd (μ k) j x))) : Go p l e R s m args below meth c cells slots Q A D ad cI cL nL (pc) (lv) (.int x :: .ref (ad k) :: st) (μ) :=
  fun ls H locs hl' hP hS => va_put (q0 := k) C.1.1 C.1.2.1 C.1.2.2.2.2 hin ty0 hty hnm C.1.2.2.2.1 C.2.2.1 hP (wd_D cI cL μ C.2.2.2.2.1 C.2.2.2.2.2.1) hS (by rw [wd_get _ _ _ _ hk, hs]) hc j hj (C.1.2.2.2.2 _ hlink) (fun _ h => by rw [← href]; exact h) hfin (hty j hj) hn hfit hl hdg (fun H1 locs1 hP1 _ hS1 => kk ls H1 locs1 hl' (by rw [hset, wd_set _ _ _ _ hk] at hP1; exact hP1) hS1)
theorem go_putN (C : Cx p l s m args meth c cc nL Ts own A D ad cI cL) {ref Cn host : String} {T : u_T} {ty0 : Nat → FieldType} {N ci index : Nat} {fs : List Value} {x : Int32} (k : Nat) (hk : k < 25) (hs : shp ad cI cL k (μ k) = .inr (ci, fs)) (hc : vwCl[ci]? = some (Cn, T, N)) (j : Nat) (hj : j < N) (href : (T j).1 = ref) (hin : ∀ w ∈ u_ws Cn T N, w ∈ Ts) (hlink : (own, index, ref, (T j).2.1, (T j).2.2.1, host) ∈ nestF)
    (hty : ∀ k, k < N → parseFieldDescriptor (T k).2.2.1 = some (ty0 k)) (hnm : ∀ a, a < N → ∀ b, b < N → a ≠ b → (T a).2.1 ≠ (T b).2.1) (hfin : (T j).2.2.2 = false) (hn : narrow (ty0 j) (.int x) = .int x) (hfit : fits (ty0 j) (.int x) = true) (hl : j < fs.length) (hset : .inr (ci, fs.set j (.int x)) = shp ad cI cL k (upd (μ k) j x))
    (hdg : decode cc pc = .ok (.putfield index, 3)) (kk : Go p l e R s m args below meth c cells slots Q A D ad cI cL nL (pc + 3) (lv) (st) (mset μ k (upd (μ k) j x))) : Go p l e R s m args below meth c cells slots Q A D ad cI cL nL (pc) (lv) (.int x :: .ref (ad k) :: st) (μ) :=
  fun ls H locs hl' hP hS => va_putN (q0 := k) C.1.1 C.1.2.1 C.1.2.2.2.2 hin ty0 hty hnm C.1.2.2.2.1 C.2.2.1 hP (wd_D cI cL μ C.2.2.2.2.1 C.2.2.2.2.2.1) hS (by rw [wd_get _ _ _ _ hk, hs]) hc j hj (va_Nw.use rfl (C.2.2.2.1.1 _ hlink)) (fun _ h => by rw [← href]; exact h) hfin (hty j hj) hn hfit hl hdg (fun H1 locs1 hP1 _ hS1 => kk ls H1 locs1 hl' (by rw [hset, wd_set _ _ _ _ hk] at hP1; exact hP1) hS1)
/-- arrays -/
def isArr (k n : Nat) : Prop := k < 25 ∧ ∀ (ad : Nat → Nat) (cI cL : ClassId) (f : Nat → Int32), shp ad cI cL k f = .inl (cI, n, .inl f)
theorem go_iald (C : Cx p l s m args meth c cc nL Ts own A D ad cI cL) {k n : Nat} (hk : isArr k n) {i : Int32} (hin : vp_in i n) (hdg : decode cc pc = .ok (.iaload, 1)) (kk : Go p l e R s m args below meth c cells slots Q A D ad cI cL nL (pc + 1) (lv) (.int (μ k i.toNatClampNeg) :: st) (μ)) : Go p l e R s m args below meth c cells slots Q A D ad cI cL nL (pc) (lv) (.int i :: .ref (ad k) :: st) (μ) :=
  fun ls H locs hl hP hS => va_iald (q0 := k) (t0 := 0) C.1.1 C.1.2.1 C.2.2.1 hP (by rw [wd_get _ _ _ _ hk.1, hk.2]) rfl hin hdg (kk ls H locs hl hP hS)
theorem go_iast (C : Cx p l s m args meth c cc nL Ts own A D ad cI cL) {k n : Nat} (hk : isArr k n) {i x : Int32} (hin : vp_in i n) (hdg : decode cc pc = .ok (.iastore, 1)) (kk : Go p l e R s m args below meth c cells slots Q A D ad cI cL nL (pc + 1) (lv) (st) (mset μ k (upd (μ k) i.toNatClampNeg x))) : Go p l e R s m args below meth c cells slots Q A D ad cI cL nL (pc) (lv) (.int x :: .int i :: .ref (ad k) :: st) (μ) :=
  fun ls H locs hl hP hS => va_iast (q0 := k) (t0 := 0) C.1.1 C.1.2.1 C.2.2.1 hP (wd_D cI cL μ C.2.2.2.2.1 C.2.2.2.2.2.1) hS (by rw [wd_get _ _ _ _ hk.1, hk.2]) rfl hin hdg (fun H1 locs1 hP1 _ hS1 => kk ls H1 locs1 hl (by rw [← hk.2 ad cI cL, wd_set _ _ _ _ hk.1] at hP1; exact hP1) hS1)
theorem go_alen (C : Cx p l s m args meth c cc nL Ts own A D ad cI cL) {k n : Nat} (hk : isArr k n) (hdg : decode cc pc = .ok (.arraylength, 1)) (kk : Go p l e R s m args below meth c cells slots Q A D ad cI cL nL (pc + 1) (lv) (.int (nI n) :: st) (μ)) : Go p l e R s m args below meth c cells slots Q A D ad cI cL nL (pc) (lv) (.ref (ad k) :: st) (μ) :=
  fun ls H locs hl hP hS => va_alen (q0 := k) (t0 := 0) (x := (n, .inl (μ k))) C.1.1 C.1.2.1 C.2.2.1 hP (by rw [wd_get _ _ _ _ hk.1, hk.2]) rfl rfl hdg (kk ls H locs hl hP hS)
theorem arr_3 : isArr 3 16 := ⟨by decide, fun _ _ _ _ => rfl⟩
theorem arr_6 : isArr 6 60 := ⟨by decide, fun _ _ _ _ => rfl⟩
theorem arr_9 : isArr 9 108 := ⟨by decide, fun _ _ _ _ => rfl⟩
theorem arr_11 : isArr 11 18 := ⟨by decide, fun _ _ _ _ => rfl⟩
theorem arr_14 : isArr 14 16 := ⟨by decide, fun _ _ _ _ => rfl⟩
theorem arr_17 : isArr 17 16 := ⟨by decide, fun _ _ _ _ => rfl⟩
theorem arr_19 : isArr 19 256 := ⟨by decide, fun _ _ _ _ => rfl⟩
theorem arr_22 : isArr 22 16 := ⟨by decide, fun _ _ _ _ => rfl⟩
theorem arr_24 : isArr 24 16 := ⟨by decide, fun _ _ _ _ => rfl⟩
end GO
