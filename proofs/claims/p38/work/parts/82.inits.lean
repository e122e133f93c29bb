/-! ===== constructors: a world that grows ===== -/
abbrev RMX (fr lo mc ms : Nat) : Room := { frames := fr, cells := mc, slots := ms, locals := lo }
/-- what every row of a constructor stands on -/
def Cg (p : Program) (l : Launch) (s : State) (m : MethodId) (args : Array Value) (meth : Method) (c : Code) (cc : ByteArray) (nL : Nat) (Ts : List Cond) (own : String) (A : Nat → Prop) (D : va_G) (cI cL : ClassId) : Prop :=
  CallFix p m c cc nL s args Ts own ∧ meth.locks = false ∧ va_K D vwCl [(cI, .int)] s ∧ Nst s ∧ (∀ q : Nat, s.heap.size ≤ q → A q) ∧ l.flags = flags0
def Gw (p : Program) (l : Launch) (e : Env) (R : Room) (s : State) (m : MethodId) (args : Array Value) (below : List Frame) (meth : Method) (c : Code) (cells slots : Nat) (Q : State → Prop) (A : Nat → Prop) (D : va_G) (nL : Nat) (pc : Nat) (lv : List (Option Value)) (st : List Value) (ws : va_W) : Prop :=
  ∀ (ls : Array Slot) (H : Heap) (locs : List Loc), lh ls nL lv → va_P D vwCl ws H → va_D A ws → va_S A s.heap H locs → W p l e R s m args below meth c H locs cells slots Q (F0 m pc ls st)
/-- a constructor: its own cells w0 become w1, mc cells of ms slots come -/
def CtN (l : Launch) (D : va_G) (cI cL : ClassId) {S : Type} (y : MethodName) (ws : List Cond) (rm : Room) (av : List Value) (w0 : va_W) (w1 : S → va_W) (mc ms : Nat) : Prop :=
  ∀ sz : Nat, Met l y ws rm (va_Pc av (fun U => U.heap.size = sz ∧ va_P D vwCl w0 U.heap ∧ va_K D vwCl [(cI, .int)] U ∧ Nst U ∧ va_D (fun _ => True) w0)) (va_Qv (fun _ : S => True) (fun u t => va_P D vwCl (w1 u) t.heap ∧ va_D (va_A w0 sz) (w1 u)) (va_A w0 sz)) mc ms (va_A w0 sz)
section GW
variable {p : Program} {l : Launch} {e : Env} {R : Room} {s : State} {m : MethodId} {args : Array Value} {below : List Frame} {meth : Method} {c : Code} {cells slots : Nat} {Q : State → Prop} {A : Nat → Prop} {D : va_G} {cI cL : ClassId} {nL : Nat} {cc : ByteArray} {own : String} {Ts : List Cond} {pc : Nat} {st : List Value} {ws : va_W} {lv : List (Option Value)}
theorem ct_ini {S : Type} {y : MethodName} {wy wy' : List Cond} {rm : Room} {av : List Value} {w0 : va_W} {w1 : S → va_W} {mc ms maxL : Nat} (hfl : l.flags = flags0) (hy : plainName y.cls = true) (hw : wy = Cond.code y cc maxL none :: wy') (hown : y.cls = own) (hin : y.name = "<init>") (ha : a1 av = true) (hn : av.length ≤ maxL)
    (body : ∀ (A : Nat → Prop) (p : Program) (e : Env) (s : State) (m : MethodId) (below : List Frame) (meth : Method) (c : Code), Cg p l s m av.toArray meth c cc maxL wy own A D cI cL → meth.name = "<init>" → meth.sig.returnType = none →
      Gw p l e (headSpec wy rm).room s m av.toArray below meth c 0 0 (MQ below (va_Qv (fun _ : S => True) (fun u t => va_P D vwCl (w1 u) t.heap ∧ va_D A (w1 u)) A) av.toArray s mc ms A) A D maxL 0 (av.map some ++ List.replicate (maxL - av.length) none) [] w0) : CtN l D cI cL y wy rm av w0 w1 mc ms := by
  intro sz
  refine Met.ofW (cc := cc) (maxL := maxL) (ret := none) hy hw ?_
  intro p e s m args below meth c s₁ B hml hv
  obtain ⟨rfl, hsz, hP, hK, hN, hD0⟩ := hv
  subst hsz
  have hown' : s.vm.findClass own = some m.cls := hown ▸ findClass_of_methodNamed B.named
  rw [lg_entry_eq]
  exact body (va_A w0 s.heap.size) p e s m below meth c ⟨⟨B.exec, B.bytes, hml, hown', atoms_spec (ws := wy) B.pre⟩, B.notSynchronized, hK, hN, fun q h => Or.inr h, hfl⟩ ((name_of_methodNamed B.named B.method).1.trans hin) B.returns _ s.heap [] (lh_entry av maxL ha hn) hP hD0.self va_S.rf
theorem gw_ws {ws' : va_W} (h : ws = ws') (k : Gw p l e R s m args below meth c (cells) (slots) Q A D nL (pc) (lv) (st) (ws')) : Gw p l e R s m args below meth c (cells) (slots) Q A D nL (pc) (lv) (st) (ws) := by subst h; exact k
theorem gw_aload0 (C : Cg p l s m args meth c cc nL Ts own A D cI cL) {t : List (Option Value)} {x : Nat} (hdg : decode cc pc = .ok (.aload_n 0, 1)) (k : Gw p l e R s m args below meth c (cells) (slots) Q A D nL (pc + 1) (some (.ref x) :: t) (.ref x :: st) (ws)) : Gw p l e R s m args below meth c (cells) (slots) Q A D nL (pc) (some (.ref x) :: t) (st) (ws) :=
  fun ls H locs hl hP hD hS => lv_aload_n C.1.1 C.1.2.1 hdg rfl (lh_at hl rfl) (k ls H locs hl hP hD hS)
theorem gw_aload1 (C : Cg p l s m args meth c cc nL Ts own A D cI cL) {x0 : Option Value} {t : List (Option Value)} {x : Nat} (hdg : decode cc pc = .ok (.aload_n 1, 1)) (k : Gw p l e R s m args below meth c (cells) (slots) Q A D nL (pc + 1) (x0 :: some (.ref x) :: t) (.ref x :: st) (ws)) : Gw p l e R s m args below meth c (cells) (slots) Q A D nL (pc) (x0 :: some (.ref x) :: t) (st) (ws) :=
  fun ls H locs hl hP hD hS => lv_aload_n C.1.1 C.1.2.1 hdg rfl (lh_at hl rfl) (k ls H locs hl hP hD hS)
theorem gw_iload1 (C : Cg p l s m args meth c cc nL Ts own A D cI cL) {x0 : Option Value} {t : List (Option Value)} {x : Int32} (hdg : decode cc pc = .ok (.iload_n 1, 1)) (k : Gw p l e R s m args below meth c (cells) (slots) Q A D nL (pc + 1) (x0 :: some (.int x) :: t) (.int x :: st) (ws)) : Gw p l e R s m args below meth c (cells) (slots) Q A D nL (pc) (x0 :: some (.int x) :: t) (st) (ws) :=
  fun ls H locs hl hP hD hS => lv_iload_n C.1.1 C.1.2.1 hdg rfl (lh_at hl rfl) (k ls H locs hl hP hD hS)
theorem gw_iconst (C : Cg p l s m args meth c cc nL Ts own A D cI cL) {n : Int} {v : Int32} (hv : Int32.ofInt n = v) (hdg : decode cc pc = .ok (.iconst n, 1)) (k : Gw p l e R s m args below meth c (cells) (slots) Q A D nL (pc + 1) (lv) (.int v :: st) (ws)) : Gw p l e R s m args below meth c (cells) (slots) Q A D nL (pc) (lv) (st) (ws) :=
  fun ls H locs hl hP hD hS => lv_iconst C.1.1 C.1.2.1 hdg hv (k ls H locs hl hP hD hS)
theorem gw_bipush (C : Cg p l s m args meth c cc nL Ts own A D cI cL) {n : Int} {v : Int32} (hv : (Int8.ofInt n).toInt32 = v) (hdg : decode cc pc = .ok (.bipush n, 2)) (k : Gw p l e R s m args below meth c (cells) (slots) Q A D nL (pc + 2) (lv) (.int v :: st) (ws)) : Gw p l e R s m args below meth c (cells) (slots) Q A D nL (pc) (lv) (st) (ws) :=
  fun ls H locs hl hP hD hS => lv_bipush C.1.1 C.1.2.1 hdg hv (k ls H locs hl hP hD hS)
theorem gw_sipush (C : Cg p l s m args meth c cc nL Ts own A D cI cL) {n : Int} {v : Int32} (hv : (Int16.ofInt n).toInt32 = v) (hdg : decode cc pc = .ok (.sipush n, 3)) (k : Gw p l e R s m args below meth c (cells) (slots) Q A D nL (pc + 3) (lv) (.int v :: st) (ws)) : Gw p l e R s m args below meth c (cells) (slots) Q A D nL (pc) (lv) (st) (ws) :=
  fun ls H locs hl hP hD hS => lv_sipush C.1.1 C.1.2.1 hdg hv (k ls H locs hl hP hD hS)
theorem gw_dup (C : Cg p l s m args meth c cc nL Ts own A D cI cL) {v : Value} (hv : v.category = 1) (hdg : decode cc pc = .ok (.dup, 1)) (k : Gw p l e R s m args below meth c (cells) (slots) Q A D nL (pc + 1) (lv) (v :: v :: st) (ws)) : Gw p l e R s m args below meth c (cells) (slots) Q A D nL (pc) (lv) (v :: st) (ws) :=
  fun ls H locs hl hP hD hS => lv_dup C.1.1 C.1.2.1 hdg hv (k ls H locs hl hP hD hS)
theorem gw_top {x y : Int32} (h : x = y) (k : Gw p l e R s m args below meth c (cells) (slots) Q A D nL (pc) (lv) (.int y :: st) (ws)) : Gw p l e R s m args below meth c (cells) (slots) Q A D nL (pc) (lv) (.int x :: st) (ws) := by subst h; exact k
theorem gw_mmax (C : Cg p l s m args meth c cc nL Ts own A D cI cL) {index : Nat} {x y : Int32} (h1 : Cond.methodLink own index Lib.Math.max.name ∈ Ts) (h2 : Cond.static Lib.Math.max.name ∈ Ts) (h3 : Cond.initialized "java/lang/Math" ∈ Ts) (h4 : Cond.code Lib.Math.max.name Lib.Math.max.code 2 (some .int) ∈ Ts) (hfr : 1 ≤ R.frames) (hlo : (st.map fun v => v.category).sum + 13 ≤ R.locals) (hcs : cells ≤ R.cells ∧ slots ≤ R.slots) (hdg : decode cc pc = .ok (.invokestatic index, 3))
    (k : Gw p l e R s m args below meth c (cells) (slots) Q A D nL (pc + 3) (lv) (.int (if x < y then y else x) :: st) (ws)) : Gw p l e R s m args below meth c (cells) (slots) Q A D nL (pc) (lv) (.int y :: .int x :: st) (ws) :=
  fun ls H locs hl hP hD hS => va_mmax C.1.1 C.1.2.1 (C.1.2.2.1.trans hl.1.symm) C.1.2.2.2.1 (C.1.2.2.2.2 _ h1) (C.1.2.2.2.2 _ h2) (C.1.2.2.2.2 _ h3) (C.1.2.2.2.2 _ h4) hfr hlo hcs.1 hcs.2 hdg (k ls H locs hl hP hD hS)
theorem gw_objInit (C : Cg p l s m args meth c cc nL Ts own A D cI cL) {idx x : Nat} (h1 : Cond.methodLink own idx objectInit ∈ Ts) (h2 : Cond.instanceMethod objectInit ∈ Ts) (h3 : Cond.code objectInit ⟨#[0xb1]⟩ 1 none ∈ Ts) (hfr : 1 ≤ R.frames) (hlo : (st.map fun v => v.category).sum + 12 ≤ R.locals) (hdg : decode cc pc = .ok (.invokespecial idx, 3))
    (k : Gw p l e R s m args below meth c (cells) (slots) Q A D nL (pc + 3) (lv) (st) (ws)) : Gw p l e R s m args below meth c (cells) (slots) Q A D nL (pc) (lv) (.ref x :: st) (ws) :=
  fun ls H locs hl hP hD hS => W.objInit C.1.1 C.1.2.1 C.1.2.2.2.1 (C.1.2.2.2.2 _ h1) (C.1.2.2.2.2 _ h2) (C.1.2.2.2.2 _ h3) rfl (hl.1.trans C.1.2.2.1.symm) rfl hdg hfr (by simpa [F0] using hlo) (W.eq (g2 := F0 m (pc + 3) ls st) rfl (k ls H locs hl hP hD hS))
theorem gw_new (C : Cg p l s m args meth c cc nL Ts own A D cI cL) {Cn : String} {T : u_T} {ty0 : Nat → FieldType} {N ci index : Nat} {fs : List Value} (hc : vwCl[ci]? = some (Cn, T, N)) (hin : ∀ w ∈ u_ws Cn T N, w ∈ Ts) (hty : ∀ k, k < N → parseFieldDescriptor (T k).2.2.1 = some (ty0 k)) (h1 : Cond.classLink own index Cn ∈ Ts) (h2 : Cond.instantiable Cn N ∈ Ts) (h3 : Cond.initialized Cn ∈ Ts) (hfs : ∀ j, j < N → defaultValue (ty0 j) = vp_V fs j) (hcs : cells + 1 ≤ R.cells ∧ slots + N ≤ R.slots) (hdg : decode cc pc = .ok (.new index, 3))
    (kk : ∀ q : Nat, Gw p l e R s m args below meth c (cells + 1) (slots + N) Q A D nL (pc + 3) (lv) (.ref q :: st) (ws ++ [(q, .inr (ci, fs))])) : Gw p l e R s m args below meth c (cells) (slots) Q A D nL (pc) (lv) (st) (ws) :=
  fun ls H locs hl hP hD hS => va_new (ci := ci) (fs := fs) (C := Cn) (T := T) (N := N) C.1.1 C.1.2.1 C.1.2.2.2.2 hin ty0 hty C.1.2.2.2.1 (C.1.2.2.2.2 _ h1) (C.1.2.2.2.2 _ h2) (C.1.2.2.2.2 _ h3) C.2.2.1 hP hD hS C.2.2.2.2.1 hc hfs hcs.1 hcs.2 hdg (fun q H1 hP1 hD1 hS1 => kk q ls H1 locs hl hP1 hD1 hS1)
theorem gw_newI (C : Cg p l s m args meth c cc nL Ts own A D cI cL) {n : Int32} {N : Nat} (harr : Cond.arrayClass .int ∈ Ts) (hn : ¬ n < 0) (hN : n.toNatClampNeg = N) (hb : N ≤ 1000) (hcs : cells + 1 ≤ R.cells ∧ slots + N ≤ R.slots) (hdg : decode cc pc = .ok (.newarray .int, 2))
    (kk : ∀ q : Nat, Gw p l e R s m args below meth c (cells + 1) (slots + N) Q A D nL (pc + 2) (lv) (.ref q :: st) (ws ++ [(q, .inl (cI, N, .inl (fun _ => 0)))])) : Gw p l e R s m args below meth c (cells) (slots) Q A D nL (pc) (lv) (.int n :: st) (ws) := by
  intro ls H locs hl hP hD hS
  have hb4 : N * componentBytes .int ≤ 536870912 := by
    have h4 : componentBytes .int = 4 := rfl
    rw [h4]; omega
  refine va_newa (atype := .int) (ty := .int) (N' := N) (a0 := (N, .inl (fun _ => 0))) C.1.1 C.1.2.1 (C.1.2.2.2.2 _ harr) rfl C.2.2.1 hP hD hS C.2.2.2.2.1 (fun cA => rfl) hn hN hb4 hcs.1 hcs.2 hdg (fun q cA H1 hK1 hP1 hD1 hS1 => ?_)
  have e1 : s.vm.findClass ("[" ++ FieldType.int.toString) = some cA := (hK1.2 1 (cA, .int) rfl).2
  have e2 : s.vm.findClass ("[" ++ FieldType.int.toString) = some cI := (C.2.2.1.2 0 (cI, .int) rfl).2
  have e : cA = cI := Option.some.inj (e1.symm.trans e2)
  subst e
  exact kk q ls H1 locs hl hP1 hD1 hS1
theorem gw_putF (C : Cg p l s m args meth c cc nL Ts own A D cI cL) (hin2 : meth.name = "<init>") {ref Cn : String} {T : u_T} {ty0 : Nat → FieldType} {N ci index : Nat} {fs : List Value} {v : Value} {a : Nat} {ws' : va_W} (q0 : Nat) (he : ws[q0]? = some (a, .inr (ci, fs))) (hc : vwCl[ci]? = some (Cn, T, N)) (j : Nat) (hj : j < N) (href : (T j).1 = ref) (hdecl : (T j).1 = own) (hin : ∀ w ∈ u_ws Cn T N, w ∈ Ts) (hlink : Cond.fieldLink own index ref (T j).2.1 (T j).2.2.1 ∈ Ts)
    (hty : ∀ k, k < N → parseFieldDescriptor (T k).2.2.1 = some (ty0 k)) (hnm : ∀ a, a < N → ∀ b, b < N → a ≠ b → (T a).2.1 ≠ (T b).2.1) (hfin : (T j).2.2.2 = true) (hn : narrow (ty0 j) v = v) (hfit : fits (ty0 j) v = true) (hl' : j < fs.length) (hset : ws.set q0 (a, .inr (ci, fs.set j v)) = ws')
    (hdg : decode cc pc = .ok (.putfield index, 3)) (kk : Gw p l e R s m args below meth c (cells) (slots) Q A D nL (pc + 3) (lv) (st) (ws')) : Gw p l e R s m args below meth c (cells) (slots) Q A D nL (pc) (lv) (v :: .ref a :: st) (ws) := by
  subst hset
  exact fun ls H locs hl hP hD hS => va_putF C.1.1 C.1.2.1 C.1.2.2.2.2 hin ty0 hty hnm C.1.2.2.2.1 C.2.2.1 hP hD hS q0 he hc j hj (C.1.2.2.2.2 _ hlink) (fun _ h => by rw [← href]; exact h) hfin hin2 hdecl (hty j hj) hn hfit hl' hdg (fun H1 locs1 hP1 hD1 hS1 => kk ls H1 locs1 hl hP1 hD1 hS1)
theorem gw_put (C : Cg p l s m args meth c cc nL Ts own A D cI cL) {ref Cn : String} {T : u_T} {ty0 : Nat → FieldType} {N ci index : Nat} {fs : List Value} {v : Value} {a : Nat} {ws' : va_W} (q0 : Nat) (he : ws[q0]? = some (a, .inr (ci, fs))) (hc : vwCl[ci]? = some (Cn, T, N)) (j : Nat) (hj : j < N) (href : (T j).1 = ref) (hin : ∀ w ∈ u_ws Cn T N, w ∈ Ts) (hlink : Cond.fieldLink own index ref (T j).2.1 (T j).2.2.1 ∈ Ts)
    (hty : ∀ k, k < N → parseFieldDescriptor (T k).2.2.1 = some (ty0 k)) (hnm : ∀ a, a < N → ∀ b, b < N → a ≠ b → (T a).2.1 ≠ (T b).2.1) (hfin : (T j).2.2.2 = false) (hn : narrow (ty0 j) v = v) (hfit : fits (ty0 j) v = true) (hl' : j < fs.length) (hset : ws.set q0 (a, .inr (ci, fs.set j v)) = ws')
    (hdg : decode cc pc = .ok (.putfield index, 3)) (kk : Gw p l e R s m args below meth c (cells) (slots) Q A D nL (pc + 3) (lv) (st) (ws')) : Gw p l e R s m args below meth c (cells) (slots) Q A D nL (pc) (lv) (v :: .ref a :: st) (ws) := by
  subst hset
  exact fun ls H locs hl hP hD hS => va_put C.1.1 C.1.2.1 C.1.2.2.2.2 hin ty0 hty hnm C.1.2.2.2.1 C.2.2.1 hP hD hS q0 he hc j hj (C.1.2.2.2.2 _ hlink) (fun _ h => by rw [← href]; exact h) hfin (hty j hj) hn hfit hl' hdg (fun H1 locs1 hP1 hD1 hS1 => kk ls H1 locs1 hl hP1 hD1 hS1)
theorem gw_get (C : Cg p l s m args meth c cc nL Ts own A D cI cL) {ref Cn : String} {T : u_T} {N ci index : Nat} {fs : List Value} {v : Value} {a : Nat} (q0 : Nat) (he : ws[q0]? = some (a, .inr (ci, fs))) (hc : vwCl[ci]? = some (Cn, T, N)) (j : Nat) (hj : j < N) (href : (T j).1 = ref) (hv : fs[j]? = some v) (hin : ∀ w ∈ u_ws Cn T N, w ∈ Ts) (hlink : Cond.fieldLink own index ref (T j).2.1 (T j).2.2.1 ∈ Ts)
    (hdg : decode cc pc = .ok (.getfield index, 3)) (kk : Gw p l e R s m args below meth c (cells) (slots) Q A D nL (pc + 3) (lv) (v :: st) (ws)) : Gw p l e R s m args below meth c (cells) (slots) Q A D nL (pc) (lv) (.ref a :: st) (ws) :=
  fun ls H locs hl hP hD hS => va_get C.1.1 C.1.2.1 C.1.2.2.2.2 hin C.1.2.2.2.1 C.2.2.1 hP q0 he hc j hj (C.1.2.2.2.2 _ hlink) (fun _ h => by rw [← href]; exact h) hv hdg (kk ls H locs hl hP hD hS)
theorem preN_cx (C : Cg p l s m args meth c cc nL Ts own A D cI cL) {w0 : va_W} {H : Heap} {A1 : Nat → Prop} (hP : va_P D vwCl w0 H) (hD : va_D A1 w0) (As : List Value) : PreS s H (va_Pc As (fun U => U.heap.size = H.size ∧ va_P D vwCl w0 U.heap ∧ va_K D vwCl [(cI, .int)] U ∧ Nst U ∧ va_D (fun _ => True) w0)) As :=
  ⟨fun a U g mk q => ⟨q.1, q.2.1, q.2.2.1, va_K.moved (u := U) (U := U.calling g mk a) (Vm.Alike.refl U.vm) q.2.2.2.1, Nst.same (U := U.calling g mk a) rfl q.2.2.2.2.1, q.2.2.2.2.2⟩, fun U hU hW => ⟨rfl, by rw [hU], by rw [hU]; exact hP, va_K.moved hW.alike C.2.2.1, Nst.warm hW C.2.2.2.1, hD.weaken (fun _ _ _ _ => trivial)⟩⟩
theorem gw_init (C : Cg p l s m args meth c cc nL Ts own A D cI cL) {S : Type} {y : MethodName} {wy wy' : List Cond} {rm : Room} {bytes : ByteArray} {maxL index h0 n mc1 ms1 : Nat} {As st0 : List Value} {w0 wr : va_W} {w1 : S → va_W} (hM : CtN l D cI cL y wy rm (.ref h0 :: As) w0 w1 mc1 ms1) (hn : As.length = n) (hstk : st0 = As.reverse ++ .ref h0 :: st) (isC isR : List Nat) (hC : isC.map (fun i => ws[i]?) = w0.map some) (hC2 : isC.filterMap (fun i => ws[i]?) = w0) (hndC : va_nd isC = true) (hR : isR.map (fun i => ws[i]?) = wr.map some) (hnd : va_nd isR = true) (hdis : ∀ i ∈ isR, i ∉ isC)
    (hG : GoodIn Ts wy) (hw : wy = Cond.code y bytes maxL none :: wy') (hini : Cond.initialized y.cls ∈ Ts) (hlink : Cond.methodLink own index y ∈ Ts) (him : Cond.instanceMethod y ∈ Ts) (hy1 : y.name = "<init>") (hy : yOK y n) (h0' : rm.cells = mc1 ∧ rm.slots = ms1) (hRR : rm.frames + 1 ≤ R.frames ∧ 8 + (maxL + 11) + rm.locals ≤ R.locals) (hst : (st.map fun v => v.category).sum ≤ 8) (hcs : cells + mc1 ≤ R.cells ∧ slots + ms1 ≤ R.slots) (hdg : decode cc pc = .ok (.invokespecial index, 3))
    (kk : ∀ u : S, Gw p l e R s m args below meth c (cells + mc1) (slots + ms1) Q A D nL (pc + 3) (lv) (st) (wr ++ w1 u)) : Gw p l e R s m args below meth c (cells) (slots) Q A D nL (pc) (lv) (st0) (ws) := by
  intro ls H locs hl hP hD hS
  have hF := va_free (wc := w0) hD hS C.2.2.2.2.1 isC hC
  refine va_callv (va_runI (As := As) (rest := st) C.1 (hM H.size) (cwI n C.1.2.2.2.2 hG hw h0'.1 h0'.2 (C.1.2.2.2.2 _ hini) (C.1.2.2.2.2 _ hlink) (C.1.2.2.2.2 _ him) hy1 hy hRR) (preN_cx C (hP.sub isC hC2) (hD.sub isC hndC hC) _) rfl hn hl.1 hstk (lv_room hst) hdg hcs) hS (fun q _ h => hF q h) hF (fun u t H1 locs1 ht hvm hp hB hz hk hS1 => ?_)
  obtain ⟨hP1, hD1⟩ := hB
  rw [ht] at hP1
  obtain ⟨hP2, hD2⟩ := va_join hP hD isC isR hC hR hnd hdis hk hF hP1 hD1
  exact kk u ls H1 locs1 hl hP2 hD2 hS1
theorem gw_initN (C : Cg p l s m args meth c cc nL Ts own A D cI cL) {S : Type} {y : MethodName} {wy wy' : List Cond} {rm : Room} {bytes : ByteArray} {maxL index h0 n mc1 ms1 : Nat} {host : String} {As st0 : List Value} {w0 wr : va_W} {w1 : S → va_W} (hM : CtN l D cI cL y wy rm (.ref h0 :: As) w0 w1 mc1 ms1) (hn : As.length = n) (hstk : st0 = As.reverse ++ .ref h0 :: st) (isC isR : List Nat) (hC : isC.map (fun i => ws[i]?) = w0.map some) (hC2 : isC.filterMap (fun i => ws[i]?) = w0) (hndC : va_nd isC = true) (hR : isR.map (fun i => ws[i]?) = wr.map some) (hnd : va_nd isR = true) (hdis : ∀ i ∈ isR, i ∉ isC)
    (hG : GoodIn Ts wy) (hw : wy = Cond.code y bytes maxL none :: wy') (hini : Cond.initialized y.cls ∈ Ts) (hlink : (own, index, y, host) ∈ nestM) (him : Cond.instanceMethod y ∈ Ts) (hy1 : y.name = "<init>") (hy : yOK y n) (h0' : rm.cells = mc1 ∧ rm.slots = ms1) (hRR : rm.frames + 1 ≤ R.frames ∧ 8 + (maxL + 11) + rm.locals ≤ R.locals) (hst : (st.map fun v => v.category).sum ≤ 8) (hcs : cells + mc1 ≤ R.cells ∧ slots + ms1 ≤ R.slots) (hdg : decode cc pc = .ok (.invokespecial index, 3))
    (kk : ∀ u : S, Gw p l e R s m args below meth c (cells + mc1) (slots + ms1) Q A D nL (pc + 3) (lv) (st) (wr ++ w1 u)) : Gw p l e R s m args below meth c (cells) (slots) Q A D nL (pc) (lv) (st0) (ws) := by
  intro ls H locs hl hP hD hS
  have hF := va_free (wc := w0) hD hS C.2.2.2.2.1 isC hC
  refine va_callv (va_runIN (As := As) (rest := st) C.1 (hM H.size) ⟨va_cnB n C.1.2.2.2.2 hG hw h0'.1 h0'.2 (C.2.2.2.1.2 _ hlink) (C.1.2.2.2.2 _ hini) hy hRR, hy1, C.1.2.2.2.2 _ him⟩ (preN_cx C (hP.sub isC hC2) (hD.sub isC hndC hC) _) rfl hn hl.1 hstk (lv_room hst) hdg hcs) hS (fun q _ h => hF q h) hF (fun u t H1 locs1 ht hvm hp hB hz hk hS1 => ?_)
  obtain ⟨hP1, hD1⟩ := hB
  rw [ht] at hP1
  obtain ⟨hP2, hD2⟩ := va_join hP hD isC isR hC hR hnd hdis hk hF hP1 hD1
  exact kk u ls H1 locs1 hl hP2 hD2 hS1
theorem gw_vret (C : Cg p l s m args meth c cc nL Ts own A D cI cL) (hr : meth.sig.returnType = none) {S : Type} {w1 : S → va_W} {mc ms : Nat} (u : S) (hu : ws = w1 u) (hc : cells ≤ mc ∧ slots ≤ ms) (hdg : decode cc pc = .ok (.return_, 1)) : Gw p l e R s m args below meth c cells slots (MQ below (va_Qv (fun _ : S => True) (fun u t => va_P D vwCl (w1 u) t.heap ∧ va_D A (w1 u)) A) args s mc ms A) A D nL pc lv [] ws := by
  subst hu
  exact fun ls H locs hl hP hD hS => W.widen hc.1 hc.2 (W.vret C.1.1 C.1.2.1 hr (fun t ht hW => ⟨⟨u, rfl, trivial, by rw [ht]; exact hP, hD⟩, hS.F ht⟩) hS.2.2 hdg C.2.1)
end GW

theorem yok_X3_init : yOK yX3_init 1 := by unfold yOK; decide +kernel
theorem yok_X5_init : yOK yX5_init 0 := by unfold yOK; decide +kernel
theorem yok_X4_init : yOK yX4_init 0 := by unfold yOK; decide +kernel
theorem yok_X2_init : yOK yX2_init 0 := by unfold yOK; decide +kernel
theorem yok_X0_init : yOK yX0_init 1 := by unfold yOK; decide +kernel
theorem yok_X6_init : yOK yX6_init 1 := by unfold yOK; decide +kernel
theorem yok_X1_init : yOK yX1_init 1 := by unfold yOK; decide +kernel
theorem yok_X7_init : yOK yX7_init 0 := by unfold yOK; decide +kernel
theorem in_X3_oi1 : Cond.methodLink RX3 1 objectInit ∈ wsX3_init := by decide +kernel
theorem in_X3_oi2 : Cond.instanceMethod objectInit ∈ wsX3_init := by decide +kernel
theorem in_X3_oi3 : Cond.code objectInit ⟨#[0xb1]⟩ 1 none ∈ wsX3_init := by decide +kernel
theorem in_X3_mm1 : Cond.methodLink RX3 7 Lib.Math.max.name ∈ wsX3_init := by decide +kernel
theorem in_X3_mm2 : Cond.static Lib.Math.max.name ∈ wsX3_init := by decide +kernel
theorem in_X3_mm3 : Cond.initialized "java/lang/Math" ∈ wsX3_init := by decide +kernel
theorem in_X3_mm4 : Cond.code Lib.Math.max.name Lib.Math.max.code 2 (some .int) ∈ wsX3_init := by decide +kernel
theorem in_X3_ac : Cond.arrayClass .int ∈ wsX3_init := by decide +kernel
theorem in_X3_fl13 : Cond.fieldLink RX3 13 "ThornCores$Row" "cells" "[I" ∈ wsX3_init := by decide +kernel
theorem hi_X3_init_RX3 : ∀ w ∈ wsX30, w ∈ wsX3_init := by decide +kernel
theorem max0 {n : Nat} (hn : n ≤ 256) : (if (0 : Int32) < nI n then nI n else 0) = nI n := by
  by_cases q : (0 : Int32) < nI n
  · rw [if_pos q]
  · rw [if_neg q]
    have : n = 0 := by
      rcases Nat.eq_zero_or_pos n with z | z
      · exact z
      · exact absurd (show (0 : Int32) < nI n from by rw [show (0 : Int32) = nI 0 from rfl]; exact nI_lt z (by omega)) q
    rw [this]; rfl
set_option maxHeartbeats 4000000 in
set_option maxRecDepth 100000 in
theorem c_X3_init {l : Launch} {D : va_G} {cI cL : ClassId} (hfl : l.flags = flags0) (h0 n : Nat) (hn : n ≤ 256) : CtN l D cI cL (S := Nat) yX3_init wsX3_init (RMX 1 21 1 n) [.ref h0, .int (nI n)] [(h0, .inr (3, [.null]))] (fun q => [(h0, .inr (3, [.ref q])), (q, .inl (cI, n, .inl (fun _ => 0)))]) 1 n := by
  refine ct_ini (cc := cX3_init) (maxL := 2) (own := RX3) hfl (by decide) rfl rfl rfl rfl (Nat.le_of_ble_eq_true rfl) (fun A p e s m below meth c C hin hr => ?_)
  refine gw_aload0 C (pc := 0) dX3_init_0 ?_
  refine gw_objInit C (pc := 1) in_X3_oi1 in_X3_oi2 in_X3_oi3 (Nat.le_of_ble_eq_true rfl) (Nat.le_of_ble_eq_true rfl) dX3_init_1 ?_
  refine gw_aload0 C (pc := 4) dX3_init_4 ?_
  refine gw_iconst C (pc := 5) (v := 0) (by decide) dX3_init_5 ?_
  refine gw_iload1 C (pc := 6) dX3_init_6 ?_
  refine gw_mmax C (pc := 7) in_X3_mm1 in_X3_mm2 in_X3_mm3 in_X3_mm4 (Nat.le_of_ble_eq_true rfl) (Nat.le_of_ble_eq_true rfl) ⟨Nat.zero_le _, Nat.zero_le _⟩ dX3_init_7 ?_
  refine gw_top (max0 hn) ?_
  refine gw_newI C (pc := 10) (N := n) in_X3_ac (nI_pos (by omega)) (nI_clamp (by omega)) (by omega) ⟨Nat.le_refl _, Nat.le_of_eq (Nat.zero_add n)⟩ dX3_init_10 (fun q => ?_)
  refine gw_ws (ws' := [(h0, .inr (3, [.null])), (q, .inl (cI, n, .inl (fun _ => 0)))]) rfl ?_
  refine gw_putF C hin (pc := 12) 0 rfl rfl 0 (by decide) rfl rfl hi_X3_init_RX3 in_X3_fl13 tyX3_ok nmX3 rfl rfl rfl (Nat.le_of_ble_eq_true rfl) (ws' := [(h0, .inr (3, [.ref q])), (q, .inl (cI, n, .inl (fun _ => 0)))]) rfl dX3_init_12 ?_
  exact gw_vret C hr q rfl ⟨Nat.le_refl _, Nat.le_of_eq (Nat.zero_add n)⟩ dX3_init_15
theorem in_X5_oi1 : Cond.methodLink RX5 3 objectInit ∈ wsX5_init := by decide +kernel
theorem in_X5_oi2 : Cond.instanceMethod objectInit ∈ wsX5_init := by decide +kernel
theorem in_X5_oi3 : Cond.code objectInit ⟨#[0xb1]⟩ 1 none ∈ wsX5_init := by decide +kernel
theorem in_X5_fl9 : Cond.fieldLink RX5 9 "ThornCores$Thicket" "count" "I" ∈ wsX5_init := by decide +kernel
theorem hi_X5_init_RX5 : ∀ w ∈ wsX50, w ∈ wsX5_init := by decide +kernel
theorem in_X5_fl15 : Cond.fieldLink RX5 15 "ThornCores$Thicket" "props" "I" ∈ wsX5_init := by decide +kernel
theorem hi_X5_init_RX3 : ∀ w ∈ wsX30, w ∈ wsX5_init := by decide +kernel
theorem in_X5_cl18 : Cond.classLink RX5 18 RX3 ∈ wsX5_init := by decide +kernel
theorem in_X5_itX3 : Cond.instantiable RX3 1 ∈ wsX5_init := by decide +kernel
theorem in_X5_inX3 : Cond.initialized RX3 ∈ wsX5_init := by decide +kernel
theorem in_X5_imX3 : Cond.instanceMethod yX3_init ∈ wsX5_init := by decide +kernel
theorem in_X5_ml20 : Cond.methodLink RX5 20 yX3_init ∈ wsX5_init := by decide +kernel
theorem in_X5_fl23 : Cond.fieldLink RX5 23 "ThornCores$Thicket" "thorns" "LThornCores$Row;" ∈ wsX5_init := by decide +kernel
set_option maxHeartbeats 4000000 in
set_option maxRecDepth 100000 in
theorem c_X5_init {l : Launch} {D : va_G} {cI cL : ClassId} (hfl : l.flags = flags0) (h0 : Nat) : CtN l D cI cL (S := Nat × Nat) yX5_init wsX5_init (RMX 2 44 2 17) [.ref h0] [(h0, .inr (5, [.int 0, .int 0, .null]))] (fun u => [(h0, .inr (5, [.int 0, .int 0, .ref u.1])), (u.1, .inr (3, [.ref u.2])), (u.2, .inl (cI, 16, .inl (fun _ => 0)))]) 2 17 := by
  refine ct_ini (cc := cX5_init) (maxL := 1) (own := RX5) hfl (by decide) rfl rfl rfl rfl (Nat.le_of_ble_eq_true rfl) (fun A p e s m below meth c C hin hr => ?_)
  refine gw_aload0 C (pc := 0) dX5_init_0 ?_
  refine gw_objInit C (pc := 1) in_X5_oi1 in_X5_oi2 in_X5_oi3 (Nat.le_of_ble_eq_true rfl) (Nat.le_of_ble_eq_true rfl) dX5_init_1 ?_
  refine gw_aload0 C (pc := 4) dX5_init_4 ?_
  refine gw_iconst C (pc := 5) (v := 0) (by decide) dX5_init_5 ?_
  refine gw_put C (pc := 6) 0 rfl rfl 0 (by decide) rfl hi_X5_init_RX5 in_X5_fl9 tyX5_ok nmX5 rfl rfl rfl (Nat.le_of_ble_eq_true rfl) (ws' := [(h0, .inr (5, [.int 0, .int 0, .null]))]) rfl dX5_init_6 ?_
  refine gw_aload0 C (pc := 9) dX5_init_9 ?_
  refine gw_iconst C (pc := 10) (v := 0) (by decide) dX5_init_10 ?_
  refine gw_put C (pc := 11) 0 rfl rfl 1 (by decide) rfl hi_X5_init_RX5 in_X5_fl15 tyX5_ok nmX5 rfl rfl rfl (Nat.le_of_ble_eq_true rfl) (ws' := [(h0, .inr (5, [.int 0, .int 0, .null]))]) rfl dX5_init_11 ?_
  refine gw_aload0 C (pc := 14) dX5_init_14 ?_
  refine gw_new C (pc := 15) (ci := 3) (fs := [.null]) (T := TX3) (N := 1) (ty0 := tyX3) rfl hi_X5_init_RX3 tyX3_ok in_X5_cl18 in_X5_itX3 in_X5_inX3 (fun j hj => by rcases (show j = 0 by omega) with rfl <;> rfl) ⟨Nat.le_of_ble_eq_true rfl, Nat.le_of_ble_eq_true rfl⟩ dX5_init_15 (fun q1 => ?_)
  refine gw_ws (ws' := [(h0, .inr (5, [.int 0, .int 0, .null])), (q1, .inr (3, [.null]))]) rfl ?_
  refine gw_dup C (pc := 18) rfl dX5_init_18 ?_
  refine gw_bipush C (pc := 19) (v := nI 16) (by decide +kernel) dX5_init_19 ?_
  refine gw_init C (pc := 21) (wr := [(h0, .inr (5, [.int 0, .int 0, .null]))]) (c_X3_init hfl q1 16 (Nat.le_of_ble_eq_true rfl) (D := D) (cI := cI) (cL := cL)) rfl rfl [1] [0] rfl rfl rfl rfl rfl (by decide) gX5_init_X3_init rfl in_X5_inX3 in_X5_ml20 in_X5_imX3 rfl yok_X3_init ⟨rfl, rfl⟩ ⟨Nat.le_of_ble_eq_true rfl, Nat.le_of_ble_eq_true rfl⟩ (Nat.le_of_ble_eq_true rfl) ⟨Nat.le_of_ble_eq_true rfl, Nat.le_of_ble_eq_true rfl⟩ dX5_init_21 (fun q2 => ?_)
  refine gw_ws (ws' := [(h0, .inr (5, [.int 0, .int 0, .null])), (q1, .inr (3, [.ref q2])), (q2, .inl (cI, 16, .inl (fun _ => 0)))]) rfl ?_
  refine gw_putF C hin (pc := 24) 0 rfl rfl 2 (by decide) rfl rfl hi_X5_init_RX5 in_X5_fl23 tyX5_ok nmX5 rfl rfl rfl (Nat.le_of_ble_eq_true rfl) (ws' := [(h0, .inr (5, [.int 0, .int 0, .ref q1])), (q1, .inr (3, [.ref q2])), (q2, .inl (cI, 16, .inl (fun _ => 0)))]) rfl dX5_init_24 ?_
  exact gw_vret C hr (q1, q2) rfl ⟨Nat.le_of_ble_eq_true rfl, Nat.le_of_ble_eq_true rfl⟩ dX5_init_27
theorem in_X4_oi1 : Cond.methodLink RX4 3 objectInit ∈ wsX4_init := by decide +kernel
theorem in_X4_oi2 : Cond.instanceMethod objectInit ∈ wsX4_init := by decide +kernel
theorem in_X4_oi3 : Cond.code objectInit ⟨#[0xb1]⟩ 1 none ∈ wsX4_init := by decide +kernel
theorem hi_X4_init_RX3 : ∀ w ∈ wsX30, w ∈ wsX4_init := by decide +kernel
theorem in_X4_cl9 : Cond.classLink RX4 9 RX3 ∈ wsX4_init := by decide +kernel
theorem in_X4_itX3 : Cond.instantiable RX3 1 ∈ wsX4_init := by decide +kernel
theorem in_X4_inX3 : Cond.initialized RX3 ∈ wsX4_init := by decide +kernel
theorem in_X4_imX3 : Cond.instanceMethod yX3_init ∈ wsX4_init := by decide +kernel
theorem in_X4_ml11 : Cond.methodLink RX4 11 yX3_init ∈ wsX4_init := by decide +kernel
theorem in_X4_fl14 : Cond.fieldLink RX4 14 "ThornCores$Text" "characters" "LThornCores$Row;" ∈ wsX4_init := by decide +kernel
theorem hi_X4_init_RX4 : ∀ w ∈ wsX40, w ∈ wsX4_init := by decide +kernel
theorem in_X4_fl20 : Cond.fieldLink RX4 20 "ThornCores$Text" "length" "I" ∈ wsX4_init := by decide +kernel
set_option maxHeartbeats 4000000 in
set_option maxRecDepth 100000 in
theorem c_X4_init {l : Launch} {D : va_G} {cI cL : ClassId} (hfl : l.flags = flags0) (h0 : Nat) : CtN l D cI cL (S := Nat × Nat) yX4_init wsX4_init (RMX 2 44 2 61) [.ref h0] [(h0, .inr (4, [.null, .int 0]))] (fun u => [(h0, .inr (4, [.ref u.1, .int 0])), (u.1, .inr (3, [.ref u.2])), (u.2, .inl (cI, 60, .inl (fun _ => 0)))]) 2 61 := by
  refine ct_ini (cc := cX4_init) (maxL := 1) (own := RX4) hfl (by decide) rfl rfl rfl rfl (Nat.le_of_ble_eq_true rfl) (fun A p e s m below meth c C hin hr => ?_)
  refine gw_aload0 C (pc := 0) dX4_init_0 ?_
  refine gw_objInit C (pc := 1) in_X4_oi1 in_X4_oi2 in_X4_oi3 (Nat.le_of_ble_eq_true rfl) (Nat.le_of_ble_eq_true rfl) dX4_init_1 ?_
  refine gw_aload0 C (pc := 4) dX4_init_4 ?_
  refine gw_new C (pc := 5) (ci := 3) (fs := [.null]) (T := TX3) (N := 1) (ty0 := tyX3) rfl hi_X4_init_RX3 tyX3_ok in_X4_cl9 in_X4_itX3 in_X4_inX3 (fun j hj => by rcases (show j = 0 by omega) with rfl <;> rfl) ⟨Nat.le_of_ble_eq_true rfl, Nat.le_of_ble_eq_true rfl⟩ dX4_init_5 (fun q1 => ?_)
  refine gw_ws (ws' := [(h0, .inr (4, [.null, .int 0])), (q1, .inr (3, [.null]))]) rfl ?_
  refine gw_dup C (pc := 8) rfl dX4_init_8 ?_
  refine gw_bipush C (pc := 9) (v := nI 60) (by decide +kernel) dX4_init_9 ?_
  refine gw_init C (pc := 11) (wr := [(h0, .inr (4, [.null, .int 0]))]) (c_X3_init hfl q1 60 (Nat.le_of_ble_eq_true rfl) (D := D) (cI := cI) (cL := cL)) rfl rfl [1] [0] rfl rfl rfl rfl rfl (by decide) gX4_init_X3_init rfl in_X4_inX3 in_X4_ml11 in_X4_imX3 rfl yok_X3_init ⟨rfl, rfl⟩ ⟨Nat.le_of_ble_eq_true rfl, Nat.le_of_ble_eq_true rfl⟩ (Nat.le_of_ble_eq_true rfl) ⟨Nat.le_of_ble_eq_true rfl, Nat.le_of_ble_eq_true rfl⟩ dX4_init_11 (fun q2 => ?_)
  refine gw_ws (ws' := [(h0, .inr (4, [.null, .int 0])), (q1, .inr (3, [.ref q2])), (q2, .inl (cI, 60, .inl (fun _ => 0)))]) rfl ?_
  refine gw_putF C hin (pc := 14) 0 rfl rfl 0 (by decide) rfl rfl hi_X4_init_RX4 in_X4_fl14 tyX4_ok nmX4 rfl rfl rfl (Nat.le_of_ble_eq_true rfl) (ws' := [(h0, .inr (4, [.ref q1, .int 0])), (q1, .inr (3, [.ref q2])), (q2, .inl (cI, 60, .inl (fun _ => 0)))]) rfl dX4_init_14 ?_
  refine gw_aload0 C (pc := 17) dX4_init_17 ?_
  refine gw_iconst C (pc := 18) (v := 0) (by decide) dX4_init_18 ?_
  refine gw_put C (pc := 19) 0 rfl rfl 1 (by decide) rfl hi_X4_init_RX4 in_X4_fl20 tyX4_ok nmX4 rfl rfl rfl (Nat.le_of_ble_eq_true rfl) (ws' := [(h0, .inr (4, [.ref q1, .int 0])), (q1, .inr (3, [.ref q2])), (q2, .inl (cI, 60, .inl (fun _ => 0)))]) rfl dX4_init_19 ?_
  exact gw_vret C hr (q1, q2) rfl ⟨Nat.le_of_ble_eq_true rfl, Nat.le_of_ble_eq_true rfl⟩ dX4_init_22
theorem in_X2_oi1 : Cond.methodLink RX2 3 objectInit ∈ wsX2_init := by decide +kernel
theorem in_X2_oi2 : Cond.instanceMethod objectInit ∈ wsX2_init := by decide +kernel
theorem in_X2_oi3 : Cond.code objectInit ⟨#[0xb1]⟩ 1 none ∈ wsX2_init := by decide +kernel
theorem hi_X2_init_RX3 : ∀ w ∈ wsX30, w ∈ wsX2_init := by decide +kernel
theorem in_X2_cl9 : Cond.classLink RX2 9 RX3 ∈ wsX2_init := by decide +kernel
theorem in_X2_itX3 : Cond.instantiable RX3 1 ∈ wsX2_init := by decide +kernel
theorem in_X2_inX3 : Cond.initialized RX3 ∈ wsX2_init := by decide +kernel
theorem in_X2_imX3 : Cond.instanceMethod yX3_init ∈ wsX2_init := by decide +kernel
theorem in_X2_ml13 : Cond.methodLink RX2 13 yX3_init ∈ wsX2_init := by decide +kernel
theorem in_X2_fl16 : Cond.fieldLink RX2 16 "ThornCores$History" "kept" "LThornCores$Row;" ∈ wsX2_init := by decide +kernel
theorem hi_X2_init_RX2 : ∀ w ∈ wsX20, w ∈ wsX2_init := by decide +kernel
theorem in_X2_fl22 : Cond.fieldLink RX2 22 "ThornCores$History" "oldest" "I" ∈ wsX2_init := by decide +kernel
theorem in_X2_fl26 : Cond.fieldLink RX2 26 "ThornCores$History" "size" "I" ∈ wsX2_init := by decide +kernel
set_option maxHeartbeats 4000000 in
set_option maxRecDepth 100000 in
theorem c_X2_init {l : Launch} {D : va_G} {cI cL : ClassId} (hfl : l.flags = flags0) (h0 : Nat) : CtN l D cI cL (S := Nat × Nat) yX2_init wsX2_init (RMX 2 44 2 109) [.ref h0] [(h0, .inr (2, [.null, .int 0, .int 0]))] (fun u => [(h0, .inr (2, [.ref u.1, .int 0, .int 0])), (u.1, .inr (3, [.ref u.2])), (u.2, .inl (cI, 108, .inl (fun _ => 0)))]) 2 109 := by
  refine ct_ini (cc := cX2_init) (maxL := 1) (own := RX2) hfl (by decide) rfl rfl rfl rfl (Nat.le_of_ble_eq_true rfl) (fun A p e s m below meth c C hin hr => ?_)
  refine gw_aload0 C (pc := 0) dX2_init_0 ?_
  refine gw_objInit C (pc := 1) in_X2_oi1 in_X2_oi2 in_X2_oi3 (Nat.le_of_ble_eq_true rfl) (Nat.le_of_ble_eq_true rfl) dX2_init_1 ?_
  refine gw_aload0 C (pc := 4) dX2_init_4 ?_
  refine gw_new C (pc := 5) (ci := 3) (fs := [.null]) (T := TX3) (N := 1) (ty0 := tyX3) rfl hi_X2_init_RX3 tyX3_ok in_X2_cl9 in_X2_itX3 in_X2_inX3 (fun j hj => by rcases (show j = 0 by omega) with rfl <;> rfl) ⟨Nat.le_of_ble_eq_true rfl, Nat.le_of_ble_eq_true rfl⟩ dX2_init_5 (fun q1 => ?_)
  refine gw_ws (ws' := [(h0, .inr (2, [.null, .int 0, .int 0])), (q1, .inr (3, [.null]))]) rfl ?_
  refine gw_dup C (pc := 8) rfl dX2_init_8 ?_
  refine gw_bipush C (pc := 9) (v := nI 108) (by decide +kernel) dX2_init_9 ?_
  refine gw_init C (pc := 11) (wr := [(h0, .inr (2, [.null, .int 0, .int 0]))]) (c_X3_init hfl q1 108 (Nat.le_of_ble_eq_true rfl) (D := D) (cI := cI) (cL := cL)) rfl rfl [1] [0] rfl rfl rfl rfl rfl (by decide) gX2_init_X3_init rfl in_X2_inX3 in_X2_ml13 in_X2_imX3 rfl yok_X3_init ⟨rfl, rfl⟩ ⟨Nat.le_of_ble_eq_true rfl, Nat.le_of_ble_eq_true rfl⟩ (Nat.le_of_ble_eq_true rfl) ⟨Nat.le_of_ble_eq_true rfl, Nat.le_of_ble_eq_true rfl⟩ dX2_init_11 (fun q2 => ?_)
  refine gw_ws (ws' := [(h0, .inr (2, [.null, .int 0, .int 0])), (q1, .inr (3, [.ref q2])), (q2, .inl (cI, 108, .inl (fun _ => 0)))]) rfl ?_
  refine gw_putF C hin (pc := 14) 0 rfl rfl 0 (by decide) rfl rfl hi_X2_init_RX2 in_X2_fl16 tyX2_ok nmX2 rfl rfl rfl (Nat.le_of_ble_eq_true rfl) (ws' := [(h0, .inr (2, [.ref q1, .int 0, .int 0])), (q1, .inr (3, [.ref q2])), (q2, .inl (cI, 108, .inl (fun _ => 0)))]) rfl dX2_init_14 ?_
  refine gw_aload0 C (pc := 17) dX2_init_17 ?_
  refine gw_iconst C (pc := 18) (v := 0) (by decide) dX2_init_18 ?_
  refine gw_put C (pc := 19) 0 rfl rfl 1 (by decide) rfl hi_X2_init_RX2 in_X2_fl22 tyX2_ok nmX2 rfl rfl rfl (Nat.le_of_ble_eq_true rfl) (ws' := [(h0, .inr (2, [.ref q1, .int 0, .int 0])), (q1, .inr (3, [.ref q2])), (q2, .inl (cI, 108, .inl (fun _ => 0)))]) rfl dX2_init_19 ?_
  refine gw_aload0 C (pc := 22) dX2_init_22 ?_
  refine gw_iconst C (pc := 23) (v := 0) (by decide) dX2_init_23 ?_
  refine gw_put C (pc := 24) 0 rfl rfl 2 (by decide) rfl hi_X2_init_RX2 in_X2_fl26 tyX2_ok nmX2 rfl rfl rfl (Nat.le_of_ble_eq_true rfl) (ws' := [(h0, .inr (2, [.ref q1, .int 0, .int 0])), (q1, .inr (3, [.ref q2])), (q2, .inl (cI, 108, .inl (fun _ => 0)))]) rfl dX2_init_24 ?_
  exact gw_vret C hr (q1, q2) rfl ⟨Nat.le_of_ble_eq_true rfl, Nat.le_of_ble_eq_true rfl⟩ dX2_init_27
theorem in_X0_oi1 : Cond.methodLink RX0 3 objectInit ∈ wsX0_init := by decide +kernel
theorem in_X0_oi2 : Cond.instanceMethod objectInit ∈ wsX0_init := by decide +kernel
theorem in_X0_oi3 : Cond.code objectInit ⟨#[0xb1]⟩ 1 none ∈ wsX0_init := by decide +kernel
theorem hi_X0_init_RX3 : ∀ w ∈ wsX30, w ∈ wsX0_init := by decide +kernel
theorem in_X0_cl9 : Cond.classLink RX0 9 RX3 ∈ wsX0_init := by decide +kernel
theorem in_X0_itX3 : Cond.instantiable RX3 1 ∈ wsX0_init := by decide +kernel
theorem in_X0_inX3 : Cond.initialized RX3 ∈ wsX0_init := by decide +kernel
theorem in_X0_imX3 : Cond.instanceMethod yX3_init ∈ wsX0_init := by decide +kernel
theorem in_X0_ml11 : Cond.methodLink RX0 11 yX3_init ∈ wsX0_init := by decide +kernel
theorem in_X0_fl14 : Cond.fieldLink RX0 14 "ThornCores$Cores" "numbers" "LThornCores$Row;" ∈ wsX0_init := by decide +kernel
theorem hi_X0_init_RX0 : ∀ w ∈ wsX00, w ∈ wsX0_init := by decide +kernel
theorem in_X0_fl20 : Cond.fieldLink RX0 20 "ThornCores$Cores" "thicket" "LThornCores$Thicket;" ∈ wsX0_init := by decide +kernel
set_option maxHeartbeats 4000000 in
set_option maxRecDepth 100000 in
theorem c_X0_init {l : Launch} {D : va_G} {cI cL : ClassId} (hfl : l.flags = flags0) (h0 h1 : Nat) : CtN l D cI cL (S := Nat × Nat) yX0_init wsX0_init (RMX 2 44 2 17) [.ref h0, .ref h1] [(h0, .inr (0, [.null, .null]))] (fun u => [(h0, .inr (0, [.ref h1, .ref u.1])), (u.1, .inr (3, [.ref u.2])), (u.2, .inl (cI, 16, .inl (fun _ => 0)))]) 2 17 := by
  refine ct_ini (cc := cX0_init) (maxL := 2) (own := RX0) hfl (by decide) rfl rfl rfl rfl (Nat.le_of_ble_eq_true rfl) (fun A p e s m below meth c C hin hr => ?_)
  refine gw_aload0 C (pc := 0) dX0_init_0 ?_
  refine gw_objInit C (pc := 1) in_X0_oi1 in_X0_oi2 in_X0_oi3 (Nat.le_of_ble_eq_true rfl) (Nat.le_of_ble_eq_true rfl) dX0_init_1 ?_
  refine gw_aload0 C (pc := 4) dX0_init_4 ?_
  refine gw_new C (pc := 5) (ci := 3) (fs := [.null]) (T := TX3) (N := 1) (ty0 := tyX3) rfl hi_X0_init_RX3 tyX3_ok in_X0_cl9 in_X0_itX3 in_X0_inX3 (fun j hj => by rcases (show j = 0 by omega) with rfl <;> rfl) ⟨Nat.le_of_ble_eq_true rfl, Nat.le_of_ble_eq_true rfl⟩ dX0_init_5 (fun q1 => ?_)
  refine gw_ws (ws' := [(h0, .inr (0, [.null, .null])), (q1, .inr (3, [.null]))]) rfl ?_
  refine gw_dup C (pc := 8) rfl dX0_init_8 ?_
  refine gw_bipush C (pc := 9) (v := nI 16) (by decide +kernel) dX0_init_9 ?_
  refine gw_init C (pc := 11) (wr := [(h0, .inr (0, [.null, .null]))]) (c_X3_init hfl q1 16 (Nat.le_of_ble_eq_true rfl) (D := D) (cI := cI) (cL := cL)) rfl rfl [1] [0] rfl rfl rfl rfl rfl (by decide) gX0_init_X3_init rfl in_X0_inX3 in_X0_ml11 in_X0_imX3 rfl yok_X3_init ⟨rfl, rfl⟩ ⟨Nat.le_of_ble_eq_true rfl, Nat.le_of_ble_eq_true rfl⟩ (Nat.le_of_ble_eq_true rfl) ⟨Nat.le_of_ble_eq_true rfl, Nat.le_of_ble_eq_true rfl⟩ dX0_init_11 (fun q2 => ?_)
  refine gw_ws (ws' := [(h0, .inr (0, [.null, .null])), (q1, .inr (3, [.ref q2])), (q2, .inl (cI, 16, .inl (fun _ => 0)))]) rfl ?_
  refine gw_putF C hin (pc := 14) 0 rfl rfl 1 (by decide) rfl rfl hi_X0_init_RX0 in_X0_fl14 tyX0_ok nmX0 rfl rfl rfl (Nat.le_of_ble_eq_true rfl) (ws' := [(h0, .inr (0, [.null, .ref q1])), (q1, .inr (3, [.ref q2])), (q2, .inl (cI, 16, .inl (fun _ => 0)))]) rfl dX0_init_14 ?_
  refine gw_aload0 C (pc := 17) dX0_init_17 ?_
  refine gw_aload1 C (pc := 18) dX0_init_18 ?_
  refine gw_putF C hin (pc := 19) 0 rfl rfl 0 (by decide) rfl rfl hi_X0_init_RX0 in_X0_fl20 tyX0_ok nmX0 rfl rfl rfl (Nat.le_of_ble_eq_true rfl) (ws' := [(h0, .inr (0, [.ref h1, .ref q1])), (q1, .inr (3, [.ref q2])), (q2, .inl (cI, 16, .inl (fun _ => 0)))]) rfl dX0_init_19 ?_
  exact gw_vret C hr (q1, q2) rfl ⟨Nat.le_of_ble_eq_true rfl, Nat.le_of_ble_eq_true rfl⟩ dX0_init_22
theorem in_X6_oi1 : Cond.methodLink RX6 3 objectInit ∈ wsX6_init := by decide +kernel
theorem in_X6_oi2 : Cond.instanceMethod objectInit ∈ wsX6_init := by decide +kernel
theorem in_X6_oi3 : Cond.code objectInit ⟨#[0xb1]⟩ 1 none ∈ wsX6_init := by decide +kernel
theorem hi_X6_init_RX3 : ∀ w ∈ wsX30, w ∈ wsX6_init := by decide +kernel
theorem in_X6_cl9 : Cond.classLink RX6 9 RX3 ∈ wsX6_init := by decide +kernel
theorem in_X6_itX3 : Cond.instantiable RX3 1 ∈ wsX6_init := by decide +kernel
theorem in_X6_inX3 : Cond.initialized RX3 ∈ wsX6_init := by decide +kernel
theorem in_X6_imX3 : Cond.instanceMethod yX3_init ∈ wsX6_init := by decide +kernel
theorem in_X6_ml11 : Cond.methodLink RX6 11 yX3_init ∈ wsX6_init := by decide +kernel
theorem in_X6_fl14 : Cond.fieldLink RX6 14 "ThornCores$Trusses" "left" "LThornCores$Row;" ∈ wsX6_init := by decide +kernel
theorem hi_X6_init_RX6 : ∀ w ∈ wsX60, w ∈ wsX6_init := by decide +kernel
theorem in_X6_fl20 : Cond.fieldLink RX6 20 "ThornCores$Trusses" "numbers" "LThornCores$Row;" ∈ wsX6_init := by decide +kernel
theorem in_X6_fl23 : Cond.fieldLink RX6 23 "ThornCores$Trusses" "thicket" "LThornCores$Thicket;" ∈ wsX6_init := by decide +kernel
set_option maxHeartbeats 4000000 in
set_option maxRecDepth 100000 in
theorem c_X6_init {l : Launch} {D : va_G} {cI cL : ClassId} (hfl : l.flags = flags0) (h0 h1 : Nat) : CtN l D cI cL (S := Nat × Nat × Nat × Nat) yX6_init wsX6_init (RMX 2 44 4 274) [.ref h0, .ref h1] [(h0, .inr (6, [.null, .null, .null]))] (fun u => [(h0, .inr (6, [.ref h1, .ref u.1, .ref u.2.2.1])), (u.1, .inr (3, [.ref u.2.1])), (u.2.1, .inl (cI, 16, .inl (fun _ => 0))), (u.2.2.1, .inr (3, [.ref u.2.2.2])), (u.2.2.2, .inl (cI, 256, .inl (fun _ => 0)))]) 4 274 := by
  refine ct_ini (cc := cX6_init) (maxL := 2) (own := RX6) hfl (by decide) rfl rfl rfl rfl (Nat.le_of_ble_eq_true rfl) (fun A p e s m below meth c C hin hr => ?_)
  refine gw_aload0 C (pc := 0) dX6_init_0 ?_
  refine gw_objInit C (pc := 1) in_X6_oi1 in_X6_oi2 in_X6_oi3 (Nat.le_of_ble_eq_true rfl) (Nat.le_of_ble_eq_true rfl) dX6_init_1 ?_
  refine gw_aload0 C (pc := 4) dX6_init_4 ?_
  refine gw_new C (pc := 5) (ci := 3) (fs := [.null]) (T := TX3) (N := 1) (ty0 := tyX3) rfl hi_X6_init_RX3 tyX3_ok in_X6_cl9 in_X6_itX3 in_X6_inX3 (fun j hj => by rcases (show j = 0 by omega) with rfl <;> rfl) ⟨Nat.le_of_ble_eq_true rfl, Nat.le_of_ble_eq_true rfl⟩ dX6_init_5 (fun q1 => ?_)
  refine gw_ws (ws' := [(h0, .inr (6, [.null, .null, .null])), (q1, .inr (3, [.null]))]) rfl ?_
  refine gw_dup C (pc := 8) rfl dX6_init_8 ?_
  refine gw_bipush C (pc := 9) (v := nI 16) (by decide +kernel) dX6_init_9 ?_
  refine gw_init C (pc := 11) (wr := [(h0, .inr (6, [.null, .null, .null]))]) (c_X3_init hfl q1 16 (Nat.le_of_ble_eq_true rfl) (D := D) (cI := cI) (cL := cL)) rfl rfl [1] [0] rfl rfl rfl rfl rfl (by decide) gX6_init_X3_init rfl in_X6_inX3 in_X6_ml11 in_X6_imX3 rfl yok_X3_init ⟨rfl, rfl⟩ ⟨Nat.le_of_ble_eq_true rfl, Nat.le_of_ble_eq_true rfl⟩ (Nat.le_of_ble_eq_true rfl) ⟨Nat.le_of_ble_eq_true rfl, Nat.le_of_ble_eq_true rfl⟩ dX6_init_11 (fun q2 => ?_)
  refine gw_ws (ws' := [(h0, .inr (6, [.null, .null, .null])), (q1, .inr (3, [.ref q2])), (q2, .inl (cI, 16, .inl (fun _ => 0)))]) rfl ?_
  refine gw_putF C hin (pc := 14) 0 rfl rfl 1 (by decide) rfl rfl hi_X6_init_RX6 in_X6_fl14 tyX6_ok nmX6 rfl rfl rfl (Nat.le_of_ble_eq_true rfl) (ws' := [(h0, .inr (6, [.null, .ref q1, .null])), (q1, .inr (3, [.ref q2])), (q2, .inl (cI, 16, .inl (fun _ => 0)))]) rfl dX6_init_14 ?_
  refine gw_aload0 C (pc := 17) dX6_init_17 ?_
  refine gw_new C (pc := 18) (ci := 3) (fs := [.null]) (T := TX3) (N := 1) (ty0 := tyX3) rfl hi_X6_init_RX3 tyX3_ok in_X6_cl9 in_X6_itX3 in_X6_inX3 (fun j hj => by rcases (show j = 0 by omega) with rfl <;> rfl) ⟨Nat.le_of_ble_eq_true rfl, Nat.le_of_ble_eq_true rfl⟩ dX6_init_18 (fun q3 => ?_)
  refine gw_ws (ws' := [(h0, .inr (6, [.null, .ref q1, .null])), (q1, .inr (3, [.ref q2])), (q2, .inl (cI, 16, .inl (fun _ => 0))), (q3, .inr (3, [.null]))]) rfl ?_
  refine gw_dup C (pc := 21) rfl dX6_init_21 ?_
  refine gw_sipush C (pc := 22) (v := nI 256) (by decide +kernel) dX6_init_22 ?_
  refine gw_init C (pc := 25) (wr := [(h0, .inr (6, [.null, .ref q1, .null])), (q1, .inr (3, [.ref q2])), (q2, .inl (cI, 16, .inl (fun _ => 0)))]) (c_X3_init hfl q3 256 (Nat.le_of_ble_eq_true rfl) (D := D) (cI := cI) (cL := cL)) rfl rfl [3] [0, 1, 2] rfl rfl rfl rfl rfl (by decide) gX6_init_X3_init rfl in_X6_inX3 in_X6_ml11 in_X6_imX3 rfl yok_X3_init ⟨rfl, rfl⟩ ⟨Nat.le_of_ble_eq_true rfl, Nat.le_of_ble_eq_true rfl⟩ (Nat.le_of_ble_eq_true rfl) ⟨Nat.le_of_ble_eq_true rfl, Nat.le_of_ble_eq_true rfl⟩ dX6_init_25 (fun q4 => ?_)
  refine gw_ws (ws' := [(h0, .inr (6, [.null, .ref q1, .null])), (q1, .inr (3, [.ref q2])), (q2, .inl (cI, 16, .inl (fun _ => 0))), (q3, .inr (3, [.ref q4])), (q4, .inl (cI, 256, .inl (fun _ => 0)))]) rfl ?_
  refine gw_putF C hin (pc := 28) 0 rfl rfl 2 (by decide) rfl rfl hi_X6_init_RX6 in_X6_fl20 tyX6_ok nmX6 rfl rfl rfl (Nat.le_of_ble_eq_true rfl) (ws' := [(h0, .inr (6, [.null, .ref q1, .ref q3])), (q1, .inr (3, [.ref q2])), (q2, .inl (cI, 16, .inl (fun _ => 0))), (q3, .inr (3, [.ref q4])), (q4, .inl (cI, 256, .inl (fun _ => 0)))]) rfl dX6_init_28 ?_
  refine gw_aload0 C (pc := 31) dX6_init_31 ?_
  refine gw_aload1 C (pc := 32) dX6_init_32 ?_
  refine gw_putF C hin (pc := 33) 0 rfl rfl 0 (by decide) rfl rfl hi_X6_init_RX6 in_X6_fl23 tyX6_ok nmX6 rfl rfl rfl (Nat.le_of_ble_eq_true rfl) (ws' := [(h0, .inr (6, [.ref h1, .ref q1, .ref q3])), (q1, .inr (3, [.ref q2])), (q2, .inl (cI, 16, .inl (fun _ => 0))), (q3, .inr (3, [.ref q4])), (q4, .inl (cI, 256, .inl (fun _ => 0)))]) rfl dX6_init_33 ?_
  exact gw_vret C hr (q1, q2, q3, q4) rfl ⟨Nat.le_of_ble_eq_true rfl, Nat.le_of_ble_eq_true rfl⟩ dX6_init_36
theorem in_X1_oi1 : Cond.methodLink RX1 3 objectInit ∈ wsX1_init := by decide +kernel
theorem in_X1_oi2 : Cond.instanceMethod objectInit ∈ wsX1_init := by decide +kernel
theorem in_X1_oi3 : Cond.code objectInit ⟨#[0xb1]⟩ 1 none ∈ wsX1_init := by decide +kernel
theorem hi_X1_init_RX3 : ∀ w ∈ wsX30, w ∈ wsX1_init := by decide +kernel
theorem in_X1_cl9 : Cond.classLink RX1 9 RX3 ∈ wsX1_init := by decide +kernel
theorem in_X1_itX3 : Cond.instantiable RX3 1 ∈ wsX1_init := by decide +kernel
theorem in_X1_inX3 : Cond.initialized RX3 ∈ wsX1_init := by decide +kernel
theorem in_X1_imX3 : Cond.instanceMethod yX3_init ∈ wsX1_init := by decide +kernel
theorem in_X1_ml11 : Cond.methodLink RX1 11 yX3_init ∈ wsX1_init := by decide +kernel
theorem in_X1_fl14 : Cond.fieldLink RX1 14 "ThornCores$Falling" "order" "LThornCores$Row;" ∈ wsX1_init := by decide +kernel
theorem hi_X1_init_RX1 : ∀ w ∈ wsX10, w ∈ wsX1_init := by decide +kernel
theorem in_X1_fl20 : Cond.fieldLink RX1 20 "ThornCores$Falling" "given" "LThornCores$Row;" ∈ wsX1_init := by decide +kernel
theorem in_X1_fl23 : Cond.fieldLink RX1 23 "ThornCores$Falling" "thicket" "LThornCores$Thicket;" ∈ wsX1_init := by decide +kernel
set_option maxHeartbeats 4000000 in
set_option maxRecDepth 100000 in
theorem c_X1_init {l : Launch} {D : va_G} {cI cL : ClassId} (hfl : l.flags = flags0) (h0 h1 : Nat) : CtN l D cI cL (S := Nat × Nat × Nat × Nat) yX1_init wsX1_init (RMX 2 44 4 34) [.ref h0, .ref h1] [(h0, .inr (1, [.null, .null, .null]))] (fun u => [(h0, .inr (1, [.ref h1, .ref u.1, .ref u.2.2.1])), (u.1, .inr (3, [.ref u.2.1])), (u.2.1, .inl (cI, 16, .inl (fun _ => 0))), (u.2.2.1, .inr (3, [.ref u.2.2.2])), (u.2.2.2, .inl (cI, 16, .inl (fun _ => 0)))]) 4 34 := by
  refine ct_ini (cc := cX1_init) (maxL := 2) (own := RX1) hfl (by decide) rfl rfl rfl rfl (Nat.le_of_ble_eq_true rfl) (fun A p e s m below meth c C hin hr => ?_)
  refine gw_aload0 C (pc := 0) dX1_init_0 ?_
  refine gw_objInit C (pc := 1) in_X1_oi1 in_X1_oi2 in_X1_oi3 (Nat.le_of_ble_eq_true rfl) (Nat.le_of_ble_eq_true rfl) dX1_init_1 ?_
  refine gw_aload0 C (pc := 4) dX1_init_4 ?_
  refine gw_new C (pc := 5) (ci := 3) (fs := [.null]) (T := TX3) (N := 1) (ty0 := tyX3) rfl hi_X1_init_RX3 tyX3_ok in_X1_cl9 in_X1_itX3 in_X1_inX3 (fun j hj => by rcases (show j = 0 by omega) with rfl <;> rfl) ⟨Nat.le_of_ble_eq_true rfl, Nat.le_of_ble_eq_true rfl⟩ dX1_init_5 (fun q1 => ?_)
  refine gw_ws (ws' := [(h0, .inr (1, [.null, .null, .null])), (q1, .inr (3, [.null]))]) rfl ?_
  refine gw_dup C (pc := 8) rfl dX1_init_8 ?_
  refine gw_bipush C (pc := 9) (v := nI 16) (by decide +kernel) dX1_init_9 ?_
  refine gw_init C (pc := 11) (wr := [(h0, .inr (1, [.null, .null, .null]))]) (c_X3_init hfl q1 16 (Nat.le_of_ble_eq_true rfl) (D := D) (cI := cI) (cL := cL)) rfl rfl [1] [0] rfl rfl rfl rfl rfl (by decide) gX1_init_X3_init rfl in_X1_inX3 in_X1_ml11 in_X1_imX3 rfl yok_X3_init ⟨rfl, rfl⟩ ⟨Nat.le_of_ble_eq_true rfl, Nat.le_of_ble_eq_true rfl⟩ (Nat.le_of_ble_eq_true rfl) ⟨Nat.le_of_ble_eq_true rfl, Nat.le_of_ble_eq_true rfl⟩ dX1_init_11 (fun q2 => ?_)
  refine gw_ws (ws' := [(h0, .inr (1, [.null, .null, .null])), (q1, .inr (3, [.ref q2])), (q2, .inl (cI, 16, .inl (fun _ => 0)))]) rfl ?_
  refine gw_putF C hin (pc := 14) 0 rfl rfl 1 (by decide) rfl rfl hi_X1_init_RX1 in_X1_fl14 tyX1_ok nmX1 rfl rfl rfl (Nat.le_of_ble_eq_true rfl) (ws' := [(h0, .inr (1, [.null, .ref q1, .null])), (q1, .inr (3, [.ref q2])), (q2, .inl (cI, 16, .inl (fun _ => 0)))]) rfl dX1_init_14 ?_
  refine gw_aload0 C (pc := 17) dX1_init_17 ?_
  refine gw_new C (pc := 18) (ci := 3) (fs := [.null]) (T := TX3) (N := 1) (ty0 := tyX3) rfl hi_X1_init_RX3 tyX3_ok in_X1_cl9 in_X1_itX3 in_X1_inX3 (fun j hj => by rcases (show j = 0 by omega) with rfl <;> rfl) ⟨Nat.le_of_ble_eq_true rfl, Nat.le_of_ble_eq_true rfl⟩ dX1_init_18 (fun q3 => ?_)
  refine gw_ws (ws' := [(h0, .inr (1, [.null, .ref q1, .null])), (q1, .inr (3, [.ref q2])), (q2, .inl (cI, 16, .inl (fun _ => 0))), (q3, .inr (3, [.null]))]) rfl ?_
  refine gw_dup C (pc := 21) rfl dX1_init_21 ?_
  refine gw_bipush C (pc := 22) (v := nI 16) (by decide +kernel) dX1_init_22 ?_
  refine gw_init C (pc := 24) (wr := [(h0, .inr (1, [.null, .ref q1, .null])), (q1, .inr (3, [.ref q2])), (q2, .inl (cI, 16, .inl (fun _ => 0)))]) (c_X3_init hfl q3 16 (Nat.le_of_ble_eq_true rfl) (D := D) (cI := cI) (cL := cL)) rfl rfl [3] [0, 1, 2] rfl rfl rfl rfl rfl (by decide) gX1_init_X3_init rfl in_X1_inX3 in_X1_ml11 in_X1_imX3 rfl yok_X3_init ⟨rfl, rfl⟩ ⟨Nat.le_of_ble_eq_true rfl, Nat.le_of_ble_eq_true rfl⟩ (Nat.le_of_ble_eq_true rfl) ⟨Nat.le_of_ble_eq_true rfl, Nat.le_of_ble_eq_true rfl⟩ dX1_init_24 (fun q4 => ?_)
  refine gw_ws (ws' := [(h0, .inr (1, [.null, .ref q1, .null])), (q1, .inr (3, [.ref q2])), (q2, .inl (cI, 16, .inl (fun _ => 0))), (q3, .inr (3, [.ref q4])), (q4, .inl (cI, 16, .inl (fun _ => 0)))]) rfl ?_
  refine gw_putF C hin (pc := 27) 0 rfl rfl 2 (by decide) rfl rfl hi_X1_init_RX1 in_X1_fl20 tyX1_ok nmX1 rfl rfl rfl (Nat.le_of_ble_eq_true rfl) (ws' := [(h0, .inr (1, [.null, .ref q1, .ref q3])), (q1, .inr (3, [.ref q2])), (q2, .inl (cI, 16, .inl (fun _ => 0))), (q3, .inr (3, [.ref q4])), (q4, .inl (cI, 16, .inl (fun _ => 0)))]) rfl dX1_init_27 ?_
  refine gw_aload0 C (pc := 30) dX1_init_30 ?_
  refine gw_aload1 C (pc := 31) dX1_init_31 ?_
  refine gw_putF C hin (pc := 32) 0 rfl rfl 0 (by decide) rfl rfl hi_X1_init_RX1 in_X1_fl23 tyX1_ok nmX1 rfl rfl rfl (Nat.le_of_ble_eq_true rfl) (ws' := [(h0, .inr (1, [.ref h1, .ref q1, .ref q3])), (q1, .inr (3, [.ref q2])), (q2, .inl (cI, 16, .inl (fun _ => 0))), (q3, .inr (3, [.ref q4])), (q4, .inl (cI, 16, .inl (fun _ => 0)))]) rfl dX1_init_32 ?_
  exact gw_vret C hr (q1, q2, q3, q4) rfl ⟨Nat.le_of_ble_eq_true rfl, Nat.le_of_ble_eq_true rfl⟩ dX1_init_35
