theorem ns_0 : decode nsCode 0 = .ok (.aload_n 0, 1) := by decide +kernel
theorem ns_1 : decode nsCode 1 = .ok (.aload_n 1, 1) := by decide +kernel
theorem ns_2 : decode nsCode 2 = .ok (.invokespecial 13, 3) := by decide +kernel
theorem ns_5 : decode nsCode 5 = .ok (.return_, 1) := by decide +kernel
section NSK
variable {p : Program} {l : Launch} {e : Env} {R : Room} {s : State} {m₀ : MethodId} {args : Array Value} {below : List Frame} {meth : Method} {c : Code} {W : State} {locs : List Loc} {cells slots : Nat}
set_option maxHeartbeats 1000000 in
theorem ns_ctorMade (X : Stand p l e R s m₀ args below meth c W locs cells slots) (hexec : p.tables.exec = Jvm.exec) (htr : e.platform.stackTraces = false) {own cls sup : String} {names : List String} {ic : Nat}
    (hown : s.vm.findClass own = some m₀.cls) (hcls : Bundle.fit cls = true) (hsup : Bundle.fit sup = true) (hnames : ∀ n ∈ names, Bundle.fit n = true)
    (h : ∀ a ∈ nsAtoms own ic cls sup names, a.before args s = true)
    (hlocs : ∀ x ∈ locs, ∀ cell, s.heap[x.base]? = some cell → cell.vm.isStatics = false)
    {a : Addr} {cX : ClassId} {kX : Class} (hfoundX : s.vm.findClass cls = some cX) (hkX : s.vm.classes[cX]? = some kX) (hcell : W.heap[a]? = some (freshCell cX kX)) (hnew : s.heap.size ≤ a)
    {msg : Value} (hmsg : msg.isRef = true)
    {g : JFrame} (hg : g.method = m₀) (hsize : g.locals.size = c.maxLocals) {rest : List Value} (hstack : g.stack = msg :: .ref a :: .ref a :: rest)
    (hd6 : decode c.code g.pc = .ok (.invokespecial ic, 3))
    (hRframes : names.length + 4 < R.frames) (hRlocals : 2 * g.monitorRoom + ((Value.ref a :: rest).map fun v => v.category).sum + (13 * (names.length + 2) + 42) ≤ R.locals) :
    ∃ (V : State) (ce : Cell) (L : List Loc), Stand p l e R s m₀ args below meth c (V.setCell a ce) (locs ++ L) cells slots ∧ (∀ y ∈ L, y.base = a) ∧ a < V.heap.size ∧ ce.cls = cX ∧ ce.vm = .none ∧
      ∀ target, Steps p.tables e below ((V.setCell a ce).setTop { g with stack := .ref a :: rest, pc := g.pc + 3 }) target → Steps p.tables e below (W.setTop g) target := by
  have howns : e.platform.frameOwnsMonitors = true := by rw [X.admits.platform]
  have hfin : e.platform.finalization = false := by rw [X.admits.platform]
  have hpl : e.platform.magicAccessors = ({} : Platform).magicAccessors := by rw [X.admits.platform]
  have a' : ∀ x, x ∈ nsAtoms own ic cls sup names → x.holds args s none s [] = true := fun x hx => h x hx
  obtain ⟨T, Z0, L, -, Y⟩ := ThrowableC.of_atoms (args := args) howns hfin hpl (fun x hx => h x (by simp [nsAtoms, hx]))
  obtain ⟨Z, M, LZ, LM, hnZ⟩ := Init0T.ofS_atoms (args := args) hpl L Y (fun x hx => h x (by simp [nsAtoms, hx]))
  obtain ⟨P1, L1, hP1m, hsP1⟩ := PassC.ofS_atoms (args := args) (s := s) hpl (X := cls) (Y := sup) (Bundle.fit_spec hcls).1 (Bundle.fit_spec hsup).2 ns_0 ns_1 ns_2 ns_5 (fun x hx => h x (by simp [nsAtoms, hx]))
  obtain ⟨P2, Qs, hlen2, L2, hL2, hP2m, hlink2, hlink3⟩ := Bundle.chainS (args := args) hpl hnZ names sup hsup hnames (fun x hx => h x (by simp [nsAtoms, hx]))
  have hL : ∀ P, P ∈ P2 :: Qs → P.LinksS e.platform s := by
    intro P hP
    rcases List.mem_cons.mp hP with rfl | hP
    · exact L2
    · exact hL2 P hP
  have hlink1 := Option.some.inj (hsP1.symm.trans hP2m)
  have hfound : s.vm.findClass cls = some P1.m.cls := findClass_of_methodNamed hP1m
  cases Option.some.inj (hfoundX.symm.trans hfound)
  obtain ⟨c1, kX', hc1, hk, hord, -, -, hn6⟩ := Cond.instantiable_spec (a' (.instantiable cls 6) (by simp [nsAtoms]))
  cases Option.some.inj (hc1.symm.trans hfound)
  cases Option.some.inj (hkX.symm.trans hk)
  have hsel0 : selectMethod e.platform s.vm P1.m.cls T.fill0 = .method T.fill0 := by
    obtain ⟨c2, r2, m2, q1, q2, q3, q4, -⟩ := Cond.selects_spec (a' (.selects cls Bundle.tFill0 Bundle.tFill0) (by simp [nsAtoms]))
    cases Option.some.inj (q1.symm.trans hfound)
    cases Option.some.inj (q2.symm.trans (State.methodFound?_of_named Y.fill0 (by decide)))
    cases Option.some.inj (q3.symm.trans Y.fill0)
    rw [Launch.admits_selectMethod X.admits]; exact q4
  have hselF : selectMethod e.platform s.vm P1.m.cls T.fill = .method T.fill := by
    obtain ⟨c2, r2, m2, q1, q2, q3, q4, -⟩ := Cond.selects_spec (a' (.selects cls Bundle.tFill Bundle.tFill) (by simp [nsAtoms]))
    cases Option.some.inj (q1.symm.trans hfound)
    cases Option.some.inj (q2.symm.trans (State.methodFound?_of_named Y.fill (by decide)))
    cases Option.some.inj (q3.symm.trans Y.fill)
    rw [Launch.admits_selectMethod X.admits]; exact q4
  obtain ⟨cellS0, hcS0, hiss⟩ := Y.statics
  obtain ⟨u0, hu0⟩ := Cond.staticRefV Y.unassigned L.unassignedStatic L.statics hcS0 hiss (a' (.isRef (.static Bundle.tN "UNASSIGNED_STACK" Bundle.steD)) (by simp [nsAtoms]))
  obtain ⟨sen, hsen⟩ := Cond.staticRefV Y.sentinel L.sentinelStatic L.statics hcS0 hiss (a' (.isRef (.static Bundle.tN "SUPPRESSED_SENTINEL" Bundle.listD)) (by simp [nsAtoms]))
  obtain ⟨ci198, i198, fB, hk198, hg198, ha198, hsB, -, hnB, htB, hffB⟩ := Cond.ownField (t := .object "java/lang/Object") Y.found L.cls (by decide +kernel) (a' (.fieldLink Bundle.tN 198 Bundle.tN "backtrace" "Ljava/lang/Object;") (by simp [nsAtoms])) (a' (.lays Bundle.tN Bundle.tN "backtrace" "Ljava/lang/Object;") (by simp [nsAtoms])) e.platform hpl
  obtain ⟨cellS, hcS', heS, -, hkeep⟩ := X.same.2.2.2.2.2 T.aS cellS0 hcS0
  have hcellS : W.heap[T.aS]? = some cellS := hcS'
  have hout' : ∀ i, (⟨T.aS, i⟩ : Loc) ∉ locs := fun i hmem => by
    have := hlocs _ hmem cellS0 hcS0
    rw [hiss] at this; cases this
  have hknownS : cellS.vm ≠ .unknown := by
    rw [heS]; intro hu
    rw [show cellS0.vm = .unknown from hu] at hiss
    cases hiss
  have hneS : T.aS ≠ a := Nat.ne_of_lt (Nat.lt_of_lt_of_le (Array.getElem?_eq_some_iff.mp hcS0).1 hnew)
  obtain ⟨iM, hffM⟩ := Y.msg
  obtain ⟨tyC, dC, hdC, hdnC⟩ := Cond.laysAt hfound hk Y.cause (a' (.lays cls Bundle.tN "cause" "Ljava/lang/Throwable;") (by simp [nsAtoms]))
  obtain ⟨tyS, dS, hdS, hdnS⟩ := Cond.laysAt hfound hk Y.stack (a' (.lays cls Bundle.tN "stackTrace" Bundle.steD) (by simp [nsAtoms]))
  obtain ⟨tyP, dP, hdP, hdnP⟩ := Cond.laysAt hfound hk Y.supp (a' (.lays cls Bundle.tN "suppressedExceptions" Bundle.listD) (by simp [nsAtoms]))
  obtain ⟨tyM, dM, hdM, hdnM⟩ := Cond.laysAt hfound hk hffM (a' (.lays cls Bundle.tN "detailMessage" "Ljava/lang/String;") (by simp [nsAtoms]))
  obtain ⟨tyB, dB, hdB, hdnB⟩ := Cond.laysAt hfound hk hffB (a' (.lays cls Bundle.tN "backtrace" "Ljava/lang/Object;") (by simp [nsAtoms]))
  have bC := Cond.laysApart hdB hdC hdnB hdnC (by rw [hnB, Y.causeName]; decide)
  have bS := Cond.laysApart hdB hdS hdnB hdnS (by rw [hnB, Y.stackName]; decide)
  have bP := Cond.laysApart hdB hdP hdnB hdnP (by rw [hnB, Y.suppName]; decide)
  have hskip : SkipFacts T e.platform s (fun u => u) u0 ((preparedCellV T.toThrowableT (freshCell P1.m.cls kX) a u0 sen).withEntry W.cur) :=
    ⟨{ ci198 := ci198, i198 := i198, fBack := fB }, ⟨hk198, hg198, ha198, hsB⟩, by
      have := fresh_default (c := P1.m.cls) tyB
      rw [htB] at this
      simpa [preparedCellV, Cell.setSlot, Cell.withEntry, Array.getElem?_setIfInBounds, bC, bS, bP, bC.symm, bS.symm, bP.symm, defaultValue] using this, fun _ _ => rfl⟩
  obtain ⟨tm, methC, cdC, kC, vm₁, hnC, -, -, -, -, -, -, -, hW₁, st1⟩ := Steps.initColdS (tb := p.tables) (e := e) (below := below) (s := s) (U := W) X.here hexec X.warmed hpl hown (t := Bundle.initS cls) rfl rfl (Bundle.fit_spec hcls).2
    (a' (.methodLink own ic (Bundle.initS cls)) (by simp [nsAtoms])) (h (.instanceMethod (Bundle.initS cls)) (by simp [nsAtoms, Bundle.passSAtoms])) (bytes := nsCode) (maxL := 2) (h (.code (Bundle.initS cls) nsCode 2 none) (by simp [nsAtoms, Bundle.passSAtoms]))
    (f := g) hg (a := a) (msg := msg) (rest := .ref a :: rest) hstack hd6
  cases Option.some.inj (hnC.symm.trans hP1m)
  have X₁ := X.noted hW₁
  obtain ⟨vm₂, X₂, st2⟩ := X₁.ctorMessageOffV hexec (g := { g with stack := .ref a :: rest }) hg hsize T L Z LZ M LM (P1 :: P2 :: Qs)
    (fun P hP => by rcases List.mem_cons.mp hP with rfl | hP; exact L1; exact hL P hP) ⟨hlink1, hlink2, hlink3⟩ (u0 := u0) (sen := sen) (self := a) hmsg (cell := freshCell P1.m.cls kX) (cellS := cellS)
    hcell (fun _ => by simp) (by simp) rfl rfl hsel0 hselF hcellS hneS hknownS (by rw [hkeep _ (hout' _)]; exact hu0) (by rw [hkeep _ (hout' _)]; exact hsen)
    (Takes.of_laid hk hord tyC (by rw [Y.causeType]; rfl)) (Takes.of_laid hk hord tyS (by rw [Y.stackType]; exact fits_refV_array _ u0)) (Takes.of_laid hk hord tyP (by rw [Y.suppType]; exact fits_refV_object _ sen))
    (Takes.of_laid hk hord tyM (by rw [Y.msgType]; exact fits_refV_object _ ⟨msg, hmsg⟩)) Y.objLocals hskip htr [] hd6
    (by simp only [List.length_cons, hlen2]; omega) (by simp only [List.length_cons, hlen2]; exact hRlocals)
  have hlt : a < ((W.setVm vm₁).setVm vm₂).heap.size := (Array.getElem?_eq_some_iff.mp hcell).1
  refine ⟨(W.setVm vm₁).setVm vm₂, _, _, X₂, fun y hy => ?_, hlt, rfl, rfl, fun target hwalk => st1 _ (fun acts => ?_)⟩
  · simp only [List.mem_cons, List.not_mem_nil, or_false] at hy
    rcases hy with rfl | rfl | rfl | rfl | rfl <;> rfl
  · rw [doInvoke_state]
    exact st2 _ hwalk
end NSK
section NSB
variable {p : Program} {l : Launch} {e : Env} {R : Room} {s : State} {m : MethodId} {args : Array Value} {below : List Frame} {meth : Method} {c : Code} {H : Heap} {locs : List Loc} {cells slots : Nat}
theorem ns_back9 {T S : State} {R' : Room} {k n : Nat} (X : Stand p l e R s m args below meth c T locs cells slots) (Y : Stand p l e R' ((T.setVm s.vm).setFrames (.invoking m args :: below)) m args below meth c T [] 0 0) (Z : Stand p l e R' ((T.setVm s.vm).setFrames (.invoking m args :: below)) m args below meth c S [] k n) :
    Stand p l e R s m args below meth c S locs (cells + k) (slots + n) := by
  have hW0 : s.WarmedH ((T.setVm s.vm).setFrames (.invoking m args :: below)).vm := State.WarmedH.refl s
  refine { admits := X.admits, cas := X.cas, clock := X.clock, frames := X.frames, room := X.room, hears := X.hears, method := X.method, code := X.code, here := Z.here, tail := Z.tail, warmed := State.WarmedH.trans hW0 Z.warmed, limits := Z.limits.trans (Y.limits.symm.trans X.limits), bytes := Z.bytes.trans (Y.bytes.symm.trans X.bytes), same := ?_ }
  obtain ⟨e1, e2⟩ := Z.same
  rw [State.setFrames_setFrames] at e1
  have h2 : (T.setVm s.vm).sameButNew (S.setVm s.vm) [] k n := ⟨e1, e2⟩
  have h3 := X.same.trans h2
  rw [List.append_nil] at h3
  exact h3
end NSB
section NSK2
variable {p : Program} {l : Launch} {e : Env} {R : Room} {s : State} {m : MethodId} {args : Array Value} {below : List Frame} {meth : Method} {c : Code} {H : Heap} {locs : List Loc} {cells slots : Nat} {Q : State → Prop}
variable {ls : Array Slot} {rest : List Value} {D : va_G} {cl : List vw_C} {tys : List (ClassId × FieldType)} {ws : va_W}
theorem ns_make {cc : ByteArray} {pc : Nat} (hexec : p.tables.exec = Jvm.exec) (hb : c.code = cc) (hl : l.stackTraces = false) {own cls sup text : String} {names : List String} {ik is ic sa : Nat} {A : Nat → Prop}
    (hown : s.vm.findClass own = some m.cls) (hcls : Bundle.fit cls = true) (hsup : Bundle.fit sup = true) (hnames : ∀ n ∈ names, Bundle.fit n = true)
    (hk : (Cond.classLink own ik cls).before args s = true) (hini : (Cond.initialized cls).before args s = true) (hstr : vk_R own is text sa s) (hat : ∀ w ∈ (nsAtoms own ic cls sup names).filter vx_no, w.before args s = true)
    (hgood : ∀ w ∈ Cond.classLink own ik cls :: Cond.initialized cls :: (nsAtoms own ic cls sup names).filter vx_no, vx_ot w = true)
    (hU : vx_Zq Bundle.tN "UNASSIGNED_STACK" Bundle.steD A s s.heap) (hN : vx_Zq Bundle.tN "SUPPRESSED_SENTINEL" Bundle.listD A s s.heap) (hS : va_S A s.heap H locs) (hsize : ls.size = c.maxLocals)
    (d0 : decode cc pc = .ok (.new ik, 3)) (d3 : decode cc (pc + 3) = .ok (.dup, 1)) (d4 : decode cc (pc + 4) = .ok (.ldc is, 2)) (d6 : decode cc (pc + 6) = .ok (.invokespecial ic, 3))
    (hRframes : names.length + 4 < R.frames) (hRlocals : (rest.map fun v => v.category).sum + (13 * (names.length + 2) + 43) ≤ R.locals) (hRcells : cells + 1 ≤ R.cells) (hRslots : slots + 6 ≤ R.slots)
    (kk : ∀ (q : Nat) (H1 : Heap) (ce : Cell), H.size ≤ H1.size → (∀ x : Nat, x < H.size → H1[x]? = H[x]?) → H1[q]? = some ce → ce.vm = .none → s.vm.findClass cls = some ce.cls → va_S A s.heap H1 locs → W p l e R s m args below meth c H1 locs (cells + 1) (slots + 6) Q (F0 m (pc + 9) ls (.ref q :: rest))) :
    W p l e R s m args below meth c H locs cells slots Q (F0 m pc ls rest) := by
  intro T hT X
  subst hT
  have htr : e.platform.stackTraces = false := (show e.platform.stackTraces = l.stackTraces by rw [X.admits.platform]).trans hl
  have Y := vx_rebase X (R' := { frames := R.frames, locals := R.locals, cells := 1, slots := 6 }) (Nat.le_refl _) (Nat.le_refl _) hRcells hRslots
  obtain ⟨s', hA'⟩ : ∃ z, z = (T.setVm s.vm).setFrames (.invoking m args :: below) := ⟨_, rfl⟩
  rw [← hA'] at Y
  have hvm : s'.vm = s.vm := by rw [hA']; rfl
  have hhp : s'.heap = T.heap := by rw [hA']; rfl
  have hW0 : s.WarmedH s'.vm := by rw [hvm]; exact State.WarmedH.refl s
  have hat' : ∀ w ∈ (nsAtoms own ic cls sup names).filter vx_no, w.before args s' = true := fun w hw => vx_ot_at hW0 hvm.symm (hgood w (List.mem_cons_of_mem _ (List.mem_cons_of_mem _ hw))) (hat w hw)
  have hk' : (Cond.classLink own ik cls).before args s' = true := vx_ot_at hW0 hvm.symm (hgood _ List.mem_cons_self) hk
  have hini' : (Cond.initialized cls).before args s' = true := vx_ot_at hW0 hvm.symm (hgood _ (List.mem_cons_of_mem _ List.mem_cons_self)) hini
  have hU' : vx_Zq Bundle.tN "UNASSIGNED_STACK" Bundle.steD A s' s'.heap := by rw [hhp]; exact vx_Zq.moved hW0.alike (hU.kept hS.2.1)
  have hN' : vx_Zq Bundle.tN "SUPPRESSED_SENTINEL" Bundle.listD A s' s'.heap := by rw [hhp]; exact vx_Zq.moved hW0.alike (hN.kept hS.2.1)
  have h : ∀ w ∈ nsAtoms own ic cls sup names, w.before args s' = true := vx_own hat' (vx_isRefq hU'.1) (vx_isRefq hN'.1) hU'.2.word hN'.2.word
  have hown' : s'.vm.findClass own = some m.cls := by rw [hvm]; exact hown
  have hins : (Cond.instantiable cls 6).before args s' = true := h _ (by simp [nsAtoms])
  obtain ⟨vm₁, cX, kX, hfX, hkX, -, -, X₁, st1⟩ := Y.newCold hexec (own := own) (C := cls) (index := ik) (n := 6) hown' hk' hins hini'
    (g := F0 m pc ls rest) rfl (by rw [hb]; exact d0) (Nat.le_refl _) (Nat.le_refl _)
  generalize hT1 : (T.setVm vm₁).pushCell { cls := cX, slots := kX.instanceTypes.map defaultValue, vm := .none } = T1 at X₁ st1
  have hcat : (Value.ref T.heap.size).category = 1 := rfl
  have hcellA : T1.heap[T.heap.size]? = some (freshCell cX kX) := by rw [← hT1]; exact State.heap_pushCell_size _ _
  have d3' : decode c.code (pc + 3) = .ok (.dup, 1) := by rw [hb]; exact d3
  have d4' : decode c.code (pc + 4) = .ok (.ldc is, 2) := by rw [hb]; exact d4
  have hstr' : vk_R own is text sa s' := vk_R.warm hW0 hstr
  obtain ⟨V, ce, L, Z, hL, hlt, hcl9, hvm9, st⟩ := ns_ctorMade X₁ hexec htr (own := own) (cls := cls) (names := names) (ic := ic) hown' hcls hsup hnames h (fun x hx => nomatch hx) hfX hkX hcellA (by rw [hhp]; exact Nat.le_refl _) (msg := .ref sa) rfl
    (g := { method := m, pc := pc + 6, locals := ls, stack := .ref sa :: .ref T.heap.size :: .ref T.heap.size :: rest, locked := none }) rfl hsize (rest := rest) rfl
    (by rw [hb]; exact d6) hRframes (by simp only [List.map_cons, List.sum_cons, hcat]; omega)
  have Z0 := Stand.forget (locs := []) Z (fun y hy => by rw [hL y hy, hhp]; exact Nat.le_refl _)
  obtain ⟨f1, f2⟩ := vx_frame Z0.same
  rw [hhp] at f1 f2
  have hcid : s.vm.findClass cls = some ce.cls := by
    rw [hcl9]
    rw [hvm] at hfX
    exact hfX
  have hh : (V.setCell T.heap.size ce).heap[T.heap.size]? = some ce := heapAt_setCell_self (s := V) ce hlt
  subst hA'
  have X5 := ns_back9 X Y Z0
  have X6 : Stand p l e R s m args below meth c (V.setCell T.heap.size ce) locs (cells + 1) (slots + 6) := { X5 with same := X5.same.mono (by omega) (by omega) }
  have hk9 : ∀ x : Nat, x < T.heap.size → (V.setCell T.heap.size ce).heap[x]? = T.heap[x]? := fun x hx => f2 x hx (fun z hz => nomatch hz)
  obtain ⟨t, a1, b1⟩ := kk T.heap.size (V.setCell T.heap.size ce).heap ce f1 hk9 hh hvm9 hcid ⟨Nat.le_trans hS.1 f1, fun q h1 h2 => (hk9 q (Nat.lt_of_lt_of_le h1 hS.1)).trans (hS.2.1 q h1 h2), hS.2.2⟩ _ rfl X6
  refine ⟨t, st1 _ ?_, b1⟩
  show Steps p.tables e below (T1.setTop { method := m, pc := pc + 3, locals := ls, stack := .ref T.heap.size :: rest, locked := none }) _
  jvm_step X₁.here [X₁.here.top, hexec, d3', Value.category]
  exact X₁.ldcString hexec (own := own) (text := text) (index := is) (a := sa) hown' hstr'.1 hstr'.2
    (g := { method := m, pc := pc + 4, locals := ls, stack := .ref T.heap.size :: .ref T.heap.size :: rest, locked := none }) rfl d4' _ (st _ a1)
theorem ns_athrow {cc : ByteArray} {pc : Nat} (hexec : p.tables.exec = Jvm.exec) (hb : c.code = cc) {q : Addr} (hdg : decode cc pc = .ok (.athrow, 1)) (k : vx_W p l e R s m args below meth c H locs cells slots Q (F0 m pc ls rest) q) : W p l e R s m args below meth c H locs cells slots Q (F0 m pc ls (.ref q :: rest)) := by
  intro T hT X
  obtain ⟨t, st, hq⟩ := k T hT X
  refine ⟨t, ?_, hq⟩
  have hdg' : decode c.code pc = .ok (.athrow, 1) := by rw [hb]; exact hdg
  jvm_step X.here [X.here.top, hexec, hdg', athrow.wp_sem]
  exact st
end NSK2

/-! ===== my layer for methods that return or throw ===== -/
abbrev exN : List String := ["java/lang/RuntimeException", "java/lang/Exception"]
abbrev eISE : String := "java/lang/IllegalStateException"
abbrev eIOB : String := "java/lang/IndexOutOfBoundsException"
abbrev eIAE : String := "java/lang/IllegalArgumentException"
abbrev eNSE : String := "java/util/NoSuchElementException"
def strs : List (Nat × String) := [(72, "there are 16 plants"), (105, "they are bound"), (110, "they are not bound"), (127, "the buffer is not a list of changes"), (135, "the buffer has 60 characters"), (147, "the buffer is a list of changes"), (156, "the history is empty"), (165, "there is no snapshot"), (217, "there is no plant to be propped up"), (246, "there is no such plant"), (249, "both plants are the same"), (251, "k is out of range")]
def exC : List String := [eISE, eIOB, eIAE, eNSE]
def exI : List String := ["java/lang/RuntimeException", "java/lang/Exception", "java/lang/Throwable"]
def exInit (C : String) : MethodName := ⟨C, "<init>", "(Ljava/lang/String;)V"⟩
/-- what a throw needs: the two statics of Throwable, which no cell of the world holds, the strings, the constructors' names, the classes -/
def EXs (ad : Nat → Nat) (U : State) (H : Heap) : Prop := vx_Zq Bundle.tN "UNASSIGNED_STACK" Bundle.steD (AW ad) U H ∧ vx_Zq Bundle.tN "SUPPRESSED_SENTINEL" Bundle.listD (AW ad) U H ∧ (∀ q ∈ strs, ∃ sa : Nat, vk_R RX7 q.1 q.2 sa U) ∧ (∀ C ∈ exI, va_Nw (.declares (exInit C)) U) ∧ (∀ C ∈ exC, va_Nw (.castable C C) U) ∧ ∀ C ∈ exC, ∀ T ∈ exC, C ≠ T → va_Nc C T U
theorem EXs.at {ad : Nat → Nat} {s t : State} {H H1 : Heap} (h : EXs ad s H) (hW : s.WarmedH t.vm) (hq : ∀ a : Nat, a < H.size → ¬ AW ad a → H1[a]? = H[a]?) : EXs ad t H1 :=
  ⟨vx_Zq.moved hW.alike (h.1.kept hq), vx_Zq.moved hW.alike (h.2.1.kept hq), fun q hm => (h.2.2.1 q hm).elim (fun sa hs => ⟨sa, vk_R.warm hW hs⟩), fun C hC => va_Nw.warmD hW (h.2.2.2.1 C hC), fun C hC => va_Nw.warmC hW (h.2.2.2.2.1 C hC), fun C hC T hT hne => va_Nc.moved hW.alike (h.2.2.2.2.2 C hC T hT hne)⟩
theorem EXs.same {ad : Nat → Nat} {s t : State} {H : Heap} (h : EXs ad s H) (hv : t.vm = s.vm) : EXs ad t H :=
  ⟨vx_Zq.moved (by rw [hv]; exact Vm.Alike.refl _) h.1, vx_Zq.moved (by rw [hv]; exact Vm.Alike.refl _) h.2.1, fun q hm => (h.2.2.1 q hm).elim (fun sa hs => ⟨sa, vk_R.same hv hs⟩), fun C hC => va_Nw.same rfl hv.symm (h.2.2.2.1 C hC), fun C hC => va_Nw.same rfl hv.symm (h.2.2.2.2.1 C hC), fun C hC T hT hne => va_Nc.moved (by rw [hv]; exact Vm.Alike.refl _) (h.2.2.2.2.2 C hC T hT hne)⟩
def PreX (D : va_G) (ad : Nat → Nat) (cI cL : ClassId) (μ : Mem) (U : State) : Prop := PreW D ad cI cL μ U ∧ EXs ad U U.heap
theorem PreX.calling {D : va_G} {ad : Nat → Nat} {cI cL : ClassId} {μ : Mem} {a : Array Value} {U : State} {g : JFrame} {mk : MethodId} (h : PreX D ad cI cL μ U) : PreX D ad cI cL μ (U.calling g mk a) := ⟨h.1.calling, h.2.same (t := U.calling g mk a) rfl⟩
/-- how it ends where it throws: the class by its name, the numbers as they were -/
def XP (xc : String → Prop) (D : va_G) (ad : Nat → Nat) (cI cL : ClassId) (μ : Mem) : String → State → State → Prop := vx_X (S := Unit) (fun _ => True) (fun E _ t => xc E ∧ va_P D vwCl (wd ad cI cL μ) t.heap) (AW ad)
def CtIX (l : Launch) (D : va_G) (ad : Nat → Nat) (cI cL : ClassId) (y : MethodName) (ws : List Cond) (rm : Room) (av : List Value) (μ : Mem) (f : Int32 → Mem → Prop) (xc : String → Prop) (mc ms : Nat) : Prop :=
  vx_Met l y ws rm (va_Pc av (PreX D ad cI cL μ)) (va_Qi f (fun μ' t => PreX D ad cI cL μ' t) (AW ad)) (XP xc D ad cI cL μ) mc ms (AW ad)
def CtVX (l : Launch) (D : va_G) (ad : Nat → Nat) (cI cL : ClassId) (y : MethodName) (ws : List Cond) (rm : Room) (av : List Value) (μ : Mem) (f : Mem → Prop) (xc : String → Prop) (mc ms : Nat) : Prop :=
  vx_Met l y ws rm (va_Pc av (PreX D ad cI cL μ)) (va_Qv f (fun μ' t => PreX D ad cI cL μ' t) (AW ad)) (XP xc D ad cI cL μ) mc ms (AW ad)
abbrev RMX (fr lo mc ms : Nat) : Room := { frames := fr, cells := mc, slots := ms, locals := lo }
theorem trOff {l : Launch} (h : l.flags = flags0) : l.stackTraces = false := by unfold Launch.stackTraces; rw [h]; decide
section XT
variable {l : Launch} {D : va_G} {ad : Nat → Nat} {cI cL : ClassId} {y : MethodName} {ws ws' : List Cond} {rm : Room} {av : List Value} {μ : Mem} {cc : ByteArray} {maxL mc ms : Nat} {own : String} {xc : String → Prop}
theorem ct_ix {f : Int32 → Mem → Prop} (rt : FieldType) (hfl : l.flags = flags0) (hok : adOK ad) (hy : plainName y.cls = true) (hw : ws = Cond.code y cc maxL (some rt) :: ws') (hown : y.cls = own) (ha : a1 av = true) (hn : av.length ≤ maxL)
    (body : ∀ (p : Program) (e : Env) (s : State) (m : MethodId) (below : List Frame) (meth : Method) (c : Code), Cx p l s m av.toArray meth c cc maxL ws own (AW ad) D ad cI cL → meth.sig.returnType = some rt → EXs ad s s.heap → (∀ x ∈ c.exceptionTable.toList, False) →
      Go p l e (headSpec ws rm).room s m av.toArray below meth c 0 0 (vx_MQ below (va_Qi f (fun μ' t => PreX D ad cI cL μ' t) (AW ad)) (XP xc D ad cI cL μ) av.toArray s mc ms (AW ad)) (AW ad) D ad cI cL maxL 0 (av.map some ++ List.replicate (maxL - av.length) none) [] μ) : CtIX l D ad cI cL y ws rm av μ f xc mc ms := by
  refine vx_ofW (cc := cc) (maxL := maxL) (ret := some rt) hy hw ?_
  intro p e s m args below meth c s₁ B hml hx hv
  obtain ⟨rfl, ⟨hP, hK, hN⟩, hE⟩ := hv
  have hown' : s.vm.findClass own = some m.cls := hown ▸ findClass_of_methodNamed B.named
  rw [lg_entry_eq]
  exact body p e s m below meth c ⟨⟨B.exec, B.bytes, hml, hown', atoms_spec (ws := ws) B.pre⟩, B.notSynchronized, hK, hN, hok, fun _ h => h, hfl⟩ B.returns hE hx _ s.heap [] (lh_entry av maxL ha hn) hP va_S.rf
theorem ct_vx {f : Mem → Prop} (hfl : l.flags = flags0) (hok : adOK ad) (hy : plainName y.cls = true) (hw : ws = Cond.code y cc maxL none :: ws') (hown : y.cls = own) (ha : a1 av = true) (hn : av.length ≤ maxL)
    (body : ∀ (p : Program) (e : Env) (s : State) (m : MethodId) (below : List Frame) (meth : Method) (c : Code), Cx p l s m av.toArray meth c cc maxL ws own (AW ad) D ad cI cL → meth.sig.returnType = none → EXs ad s s.heap → (∀ x ∈ c.exceptionTable.toList, False) →
      Go p l e (headSpec ws rm).room s m av.toArray below meth c 0 0 (vx_MQ below (va_Qv f (fun μ' t => PreX D ad cI cL μ' t) (AW ad)) (XP xc D ad cI cL μ) av.toArray s mc ms (AW ad)) (AW ad) D ad cI cL maxL 0 (av.map some ++ List.replicate (maxL - av.length) none) [] μ) : CtVX l D ad cI cL y ws rm av μ f xc mc ms := by
  refine vx_ofW (cc := cc) (maxL := maxL) (ret := none) hy hw ?_
  intro p e s m args below meth c s₁ B hml hx hv
  obtain ⟨rfl, ⟨hP, hK, hN⟩, hE⟩ := hv
  have hown' : s.vm.findClass own = some m.cls := hown ▸ findClass_of_methodNamed B.named
  rw [lg_entry_eq]
  exact body p e s m below meth c ⟨⟨B.exec, B.bytes, hml, hown', atoms_spec (ws := ws) B.pre⟩, B.notSynchronized, hK, hN, hok, fun _ h => h, hfl⟩ B.returns hE hx _ s.heap [] (lh_entry av maxL ha hn) hP va_S.rf
end XT
section XCALLS
variable {p : Program} {l : Launch} {e : Env} {R : Room} {s : State} {m : MethodId} {args : Array Value} {below : List Frame} {meth : Method} {c : Code} {cells slots mc ms mc1 ms1 : Nat} {D : va_G} {ad : Nat → Nat} {cI cL : ClassId} {nL : Nat} {cc : ByteArray} {own : String} {Ts : List Cond} {pc : Nat} {st : List Value} {μ : Mem} {lv : List (Option Value)} {xc xc1 : String → Prop} {Qc : Array Value → State → Outcome → State → Prop}
theorem PreX.cx (C : Cx p l s m args meth c cc nL Ts own (AW ad) D ad cI cL) (hE : EXs ad s s.heap) {H : Heap} {locs : List Loc} {t : State} (hP : va_P D vwCl (wd ad cI cL μ) H) (hS : va_S (AW ad) s.heap H locs) (ht : t.heap = H) (hW : s.WarmedH t.vm) : PreX D ad cI cL μ t :=
  ⟨PreW.cx C hP ht hW, hE.at hW (by rw [ht]; exact hS.2.1)⟩
theorem go_xiret (C : Cx p l s m args meth c cc nL Ts own (AW ad) D ad cI cL) (hr : meth.sig.returnType = some .int) (hE : EXs ad s s.heap) {v : Int32} {f : Int32 → Mem → Prop} {XC : String → State → State → Prop} (hc : cells ≤ mc ∧ slots ≤ ms) (hdg : decode cc pc = .ok (.ireturn, 1)) (hf : f v μ) : Go p l e R s m args below meth c cells slots (vx_MQ below (va_Qi f (fun μ' t => PreX D ad cI cL μ' t) (AW ad)) XC args s mc ms (AW ad)) (AW ad) D ad cI cL nL pc lv [.int v] μ :=
  fun ls H locs hl hP hS => vx_ret (W.widen hc.1 hc.2 (W.iret C.1.1 C.1.2.1 hr (fun t ht hW => ⟨⟨v, μ, rfl, hf, PreX.cx C hE hP hS ht hW⟩, hS.F ht⟩) hS.2.2 hdg C.2.1))
theorem go_xzret (C : Cx p l s m args meth c cc nL Ts own (AW ad) D ad cI cL) (hr : meth.sig.returnType = some .boolean) (hE : EXs ad s s.heap) {v : Int32} {f : Int32 → Mem → Prop} {XC : String → State → State → Prop} (hc : cells ≤ mc ∧ slots ≤ ms) (hdg : decode cc pc = .ok (.ireturn, 1)) (h01 : v = 0 ∨ v = 1) (hf : f v μ) : Go p l e R s m args below meth c cells slots (vx_MQ below (va_Qi f (fun μ' t => PreX D ad cI cL μ' t) (AW ad)) XC args s mc ms (AW ad)) (AW ad) D ad cI cL nL pc lv [.int v] μ :=
  fun ls H locs hl hP hS => vx_ret (W.widen hc.1 hc.2 (W.zret C.1.1 C.1.2.1 hr (nar_z h01) (fun t ht hW => ⟨⟨v, μ, rfl, hf, PreX.cx C hE hP hS ht hW⟩, hS.F ht⟩) hS.2.2 hdg C.2.1))
theorem go_xvret (C : Cx p l s m args meth c cc nL Ts own (AW ad) D ad cI cL) (hr : meth.sig.returnType = none) (hE : EXs ad s s.heap) {f : Mem → Prop} {XC : String → State → State → Prop} (hc : cells ≤ mc ∧ slots ≤ ms) (hdg : decode cc pc = .ok (.return_, 1)) (hf : f μ) : Go p l e R s m args below meth c cells slots (vx_MQ below (va_Qv f (fun μ' t => PreX D ad cI cL μ' t) (AW ad)) XC args s mc ms (AW ad)) (AW ad) D ad cI cL nL pc lv [] μ :=
  fun ls H locs hl hP hS => vx_ret (W.widen hc.1 hc.2 (W.vret C.1.1 C.1.2.1 hr (fun t ht hW => ⟨⟨μ, rfl, hf, PreX.cx C hE hP hS ht hW⟩, hS.F ht⟩) hS.2.2 hdg C.2.1))
theorem preVX_cx (C : Cx p l s m args meth c cc nL Ts own (AW ad) D ad cI cL) (hE : EXs ad s s.heap) {H : Heap} {locs : List Loc} (hP : va_P D vwCl (wd ad cI cL μ) H) (hS : va_S (AW ad) s.heap H locs) {k : Nat} {Cn : String} (h : isObj k Cn) (As : List Value) : PreV s H Cn (ad k) (va_Pc (.ref (ad k) :: As) (PreX D ad cI cL μ)) As :=
  ⟨fun a U g mk q => ⟨q.1, q.2.calling⟩, h.recv C hP, fun U hU hW => ⟨rfl, PreX.cx C hE hP hS hU hW⟩⟩
/-- the world behind a throw -/
theorem XP.of {H : Heap} {locs : List Loc} {E : String} {t : State} (hS : va_S (AW ad) s.heap H locs) (hx : xc E) (ht : t.heap = H) (hP : va_P D vwCl (wd ad cI cL μ) H) : XP xc D ad cI cL μ E s t := ⟨(), trivial, ⟨hx, by rw [ht]; exact hP⟩, hS.F ht⟩
/-- the two behind a call that may throw: it is not caught here, or it goes on -/
theorem go_xvV1 (C : Cx p l s m args meth c cc nL Ts own (AW ad) D ad cI cL) (hE : EXs ad s s.heap) (ht : ∀ x ∈ c.exceptionTable.toList, False) {y : MethodName} {wsY wsY' : List Cond} {rm : Room} {bytes : ByteArray} {maxL index : Nat} {a : Value} {f : Mem → Prop} {k : Nat} {Cn : String} (ho : isObj k Cn) (hM : CtVX l D ad cI cL y wsY rm (.ref (ad k) :: [a]) μ f xc1 mc1 ms1) (hG : GoodIn Ts (wsV own index Cn y wsY)) (hw : wsY = Cond.code y bytes maxL (none) :: wsY') (hyc : y.cls = Cn) (hy : yOK y 1) (h0 : rm.cells = mc1 ∧ rm.slots = ms1) (hR : rm.frames + 1 ≤ R.frames ∧ 8 + (maxL + 11) + rm.locals ≤ R.locals) (hst : (st.map fun v => v.category).sum ≤ 8) (hcs : cells + mc1 ≤ R.cells ∧ slots + ms1 ≤ R.slots) (hms : cells + mc1 ≤ mc ∧ slots + ms1 ≤ ms) (hdg : decode cc pc = .ok (.invokevirtual index, 3)) (hx : ∀ E, xc1 E → xc E)
    (kk : ∀ (μ' : Mem), f μ' → Go p l e R s m args below meth c (cells + mc1) (slots + ms1) (vx_MQ below Qc (XP xc D ad cI cL μ) args s mc ms (AW ad)) (AW ad) D ad cI cL nL (pc + 3) (lv) (st) (μ')) : Go p l e R s m args below meth c cells slots (vx_MQ below Qc (XP xc D ad cI cL μ) args s mc ms (AW ad)) (AW ad) D ad cI cL nL (pc) (lv) (a :: .ref (ad k) :: st) (μ) :=
  fun ls H locs hl hP hS => vx_callv (vx_runV (As := [a]) (rest := st) C.1 hM (cwV 1 C.1.2.2.2.2 hG hw h0.1 h0.2 ⟨hyc, hy⟩ hR) (preVX_cx C hE hP hS ho [a]) rfl rfl hl.1 rfl (lv_room hst) hdg hcs) hS (fun q _ h => h) (fun q h => h) (fun q _ h => h)
    (fun E ce q9 u t H1 locs1 ht1 hvm hpu hB hz hk1 hS1 hce hcv hcl => vx_out (fun x hx => (ht x hx).elim) C.2.1 hce hcv hcl (fun t1 ht1 _ => XP.of hS1 (hx E hB.1) ht1 (by rw [← ‹t.heap = H1›]; exact hB.2)) hS1.2.2 hms.1 hms.2)
    (fun μ' t H1 locs1 ht hvm hf hB hz hk1 hS1 => kk μ' hf ls H1 locs1 hl (by rw [← ht]; exact hB.1.1) hS1)
theorem go_xvV2 (C : Cx p l s m args meth c cc nL Ts own (AW ad) D ad cI cL) (hE : EXs ad s s.heap) (ht : ∀ x ∈ c.exceptionTable.toList, False) {y : MethodName} {wsY wsY' : List Cond} {rm : Room} {bytes : ByteArray} {maxL index : Nat} {a b : Value} {f : Mem → Prop} {k : Nat} {Cn : String} (ho : isObj k Cn) (hM : CtVX l D ad cI cL y wsY rm (.ref (ad k) :: [a, b]) μ f xc1 mc1 ms1) (hG : GoodIn Ts (wsV own index Cn y wsY)) (hw : wsY = Cond.code y bytes maxL (none) :: wsY') (hyc : y.cls = Cn) (hy : yOK y 2) (h0 : rm.cells = mc1 ∧ rm.slots = ms1) (hR : rm.frames + 1 ≤ R.frames ∧ 8 + (maxL + 11) + rm.locals ≤ R.locals) (hst : (st.map fun v => v.category).sum ≤ 8) (hcs : cells + mc1 ≤ R.cells ∧ slots + ms1 ≤ R.slots) (hms : cells + mc1 ≤ mc ∧ slots + ms1 ≤ ms) (hdg : decode cc pc = .ok (.invokevirtual index, 3)) (hx : ∀ E, xc1 E → xc E)
    (kk : ∀ (μ' : Mem), f μ' → Go p l e R s m args below meth c (cells + mc1) (slots + ms1) (vx_MQ below Qc (XP xc D ad cI cL μ) args s mc ms (AW ad)) (AW ad) D ad cI cL nL (pc + 3) (lv) (st) (μ')) : Go p l e R s m args below meth c cells slots (vx_MQ below Qc (XP xc D ad cI cL μ) args s mc ms (AW ad)) (AW ad) D ad cI cL nL (pc) (lv) (b :: a :: .ref (ad k) :: st) (μ) :=
  fun ls H locs hl hP hS => vx_callv (vx_runV (As := [a, b]) (rest := st) C.1 hM (cwV 2 C.1.2.2.2.2 hG hw h0.1 h0.2 ⟨hyc, hy⟩ hR) (preVX_cx C hE hP hS ho [a, b]) rfl rfl hl.1 rfl (lv_room hst) hdg hcs) hS (fun q _ h => h) (fun q h => h) (fun q _ h => h)
    (fun E ce q9 u t H1 locs1 ht1 hvm hpu hB hz hk1 hS1 hce hcv hcl => vx_out (fun x hx => (ht x hx).elim) C.2.1 hce hcv hcl (fun t1 ht1 _ => XP.of hS1 (hx E hB.1) ht1 (by rw [← ‹t.heap = H1›]; exact hB.2)) hS1.2.2 hms.1 hms.2)
    (fun μ' t H1 locs1 ht hvm hf hB hz hk1 hS1 => kk μ' hf ls H1 locs1 hl (by rw [← ht]; exact hB.1.1) hS1)
theorem wd_kept {H H1 : Heap} (h : va_P D vwCl (wd ad cI cL μ) H) (hq : ∀ q : Nat, q < H.size → H1[q]? = H[q]?) : va_P D vwCl (wd ad cI cL μ) H1 := h.kept (fun k q hk => by
  have := h k q hk
  exact hq _ (va_at.lt this))
theorem EXs.words {H : Heap} (hE : EXs ad s H) : ∀ w ∈ exI.map (fun C => Cond.declares (exInit C)) ++ exC.map (fun C => Cond.castable C C), w.before args s = true := by
  intro w hw
  rcases List.mem_append.mp hw with h | h
  · obtain ⟨C, hC, rfl⟩ := List.mem_map.mp h
    exact va_Nw.use rfl (hE.2.2.2.1 C hC)
  · obtain ⟨C, hC, rfl⟩ := List.mem_map.mp h
    exact va_Nw.use rfl (hE.2.2.2.2.1 C hC)
/-- new X(text) and its throw -/
theorem go_throw (C : Cx p l s m args meth c cc nL Ts RX7 (AW ad) D ad cI cL) (hE : EXs ad s s.heap) (ht : ∀ x ∈ c.exceptionTable.toList, False) {cls text : String} {ik is ic : Nat} (hcls : Bundle.fit cls = true)
    (hk : Cond.classLink RX7 ik cls ∈ Ts) (hini : Cond.initialized cls ∈ Ts) (hat : ∀ w ∈ (vx_atS RX7 ic cls exN).filter goodWord, w ∈ Ts) (hng : ∀ w ∈ (vx_atS RX7 ic cls exN).filter (fun w => !goodWord w), w ∈ exI.map (fun C => Cond.declares (exInit C)) ++ exC.map (fun C => Cond.castable C C))
    (hgood : ∀ w ∈ Cond.classLink RX7 ik cls :: Cond.initialized cls :: vx_atS RX7 ic cls exN, vx_ot w = true) (hstr : (is, text) ∈ strs)
    (d0 : decode cc pc = .ok (.new ik, 3)) (d3 : decode cc (pc + 3) = .ok (.dup, 1)) (d4 : decode cc (pc + 4) = .ok (.ldc is, 2)) (d6 : decode cc (pc + 6) = .ok (.invokespecial ic, 3)) (d9 : decode cc (pc + 9) = .ok (.athrow, 1))
    (hR : 5 < R.frames ∧ 90 ≤ R.locals) (hst : (st.map fun v => v.category).sum ≤ 8) (hcs : cells + 1 ≤ R.cells ∧ slots + 6 ≤ R.slots) (hms : cells + 1 ≤ mc ∧ slots + 6 ≤ ms) (hx : xc cls) :
    Go p l e R s m args below meth c cells slots (vx_MQ below Qc (XP xc D ad cI cL μ) args s mc ms (AW ad)) (AW ad) D ad cI cL nL (pc) (lv) (st) (μ) := by
  intro ls H locs hl hP hS
  obtain ⟨sa, hsa⟩ := hE.2.2.1 _ hstr
  refine vx_throwS (names := exN) (A := AW ad) C.1.1 C.1.2.1 (trOff C.fl) C.1.2.2.2.1 hcls (by decide) (C.1.2.2.2.2 _ hk) (C.1.2.2.2.2 _ hini) hsa ?_ hgood hE.1 hE.2.1 hS ?_ d0 d3 d4 d6 d9 (fun x hx => (ht x hx).elim) hR.1 ?_ hcs.1 hcs.2 C.2.1 ?_ hS.2.2 hms.1 hms.2
  · exact vx_hat (fun w hw => C.1.2.2.2.2 _ (hat w hw)) hng (EXs.words hE)
  · rw [hl.1]; exact C.1.2.2.1.symm
  · have h1 : 13 * (exN.length + 1) + 43 = 82 := rfl
    omega
  · intro t hvm hz hq
    exact ⟨(), trivial, ⟨hx, wd_kept hP hq⟩, Nat.le_trans hS.1 hz, fun q h1 h2 => by rw [hq q (Nat.lt_of_lt_of_le h1 hS.1)]; exact hS.2.1 q h1 h2⟩
/-- the same of NoSuchElementException -/
theorem go_throwN (C : Cx p l s m args meth c cc nL Ts RX7 (AW ad) D ad cI cL) (hE : EXs ad s s.heap) (ht : ∀ x ∈ c.exceptionTable.toList, False) {cls sup text : String} {ik is ic : Nat} (hcls : Bundle.fit cls = true) (hsup : Bundle.fit sup = true)
    (hk : Cond.classLink RX7 ik cls ∈ Ts) (hini : Cond.initialized cls ∈ Ts) (hat : ∀ w ∈ (nsAt RX7 ic cls [sup, "java/lang/Exception"]).filter goodWord, w ∈ Ts) (hng : ∀ w ∈ (nsAt RX7 ic cls [sup, "java/lang/Exception"]).filter (fun w => !goodWord w), w ∈ exI.map (fun C => Cond.declares (exInit C)) ++ exC.map (fun C => Cond.castable C C))
    (hgood : ∀ w ∈ Cond.classLink RX7 ik cls :: Cond.initialized cls :: nsAt RX7 ic cls [sup, "java/lang/Exception"], vx_ot w = true) (hstr : (is, text) ∈ strs)
    (d0 : decode cc pc = .ok (.new ik, 3)) (d3 : decode cc (pc + 3) = .ok (.dup, 1)) (d4 : decode cc (pc + 4) = .ok (.ldc is, 2)) (d6 : decode cc (pc + 6) = .ok (.invokespecial ic, 3)) (d9 : decode cc (pc + 9) = .ok (.athrow, 1))
    (hR : 5 < R.frames ∧ 90 ≤ R.locals) (hst : (st.map fun v => v.category).sum ≤ 8) (hcs : cells + 1 ≤ R.cells ∧ slots + 6 ≤ R.slots) (hms : cells + 1 ≤ mc ∧ slots + 6 ≤ ms) (hx : xc cls) :
    Go p l e R s m args below meth c cells slots (vx_MQ below Qc (XP xc D ad cI cL μ) args s mc ms (AW ad)) (AW ad) D ad cI cL nL (pc) (lv) (st) (μ) := by
  intro ls H locs hl hP hS
  obtain ⟨sa, hsa⟩ := hE.2.2.1 _ hstr
  refine ns_make (names := ["java/lang/Exception"]) (A := AW ad) C.1.1 C.1.2.1 (trOff C.fl) C.1.2.2.2.1 hcls hsup (by decide) (C.1.2.2.2.2 _ hk) (C.1.2.2.2.2 _ hini) hsa ?_ hgood hE.1 hE.2.1 hS ?_ d0 d3 d4 d6 hR.1 ?_ hcs.1 hcs.2 (fun q H1 ce hz hq hce hcv hcl hS1 => ?_)
  · exact vx_hat (fun w hw => C.1.2.2.2.2 _ (hat w hw)) hng (EXs.words hE)
  · rw [hl.1]; exact C.1.2.2.1.symm
  · have h1 : 13 * (1 + 2) + 43 = 82 := rfl
    show (List.map (fun v => v.category) st).sum + (13 * (1 + 2) + 43) ≤ R.locals
    omega
  · exact ns_athrow C.1.1 C.1.2.1 d9 (vx_out (fun x hx => (ht x hx).elim) C.2.1 hce hcv hcl (fun t ht1 _ => XP.of hS1 hx ht1 (wd_kept hP hq)) hS1.2.2 hms.1 hms.2)
end XCALLS
theorem ng_74 : ∀ w ∈ (vx_atS RX7 74 eISE exN).filter (fun w => !goodWord w), w ∈ exI.map (fun C => Cond.declares (exInit C)) ++ exC.map (fun C => Cond.castable C C) := by decide +kernel
theorem gd_74 : ∀ w ∈ Cond.classLink RX7 70 eISE :: Cond.initialized eISE :: vx_atS RX7 74 eISE exN, vx_ot w = true := by decide +kernel
theorem ng_248 : ∀ w ∈ (vx_atS RX7 248 eIOB exN).filter (fun w => !goodWord w), w ∈ exI.map (fun C => Cond.declares (exInit C)) ++ exC.map (fun C => Cond.castable C C) := by decide +kernel
theorem gd_248 : ∀ w ∈ Cond.classLink RX7 244 eIOB :: Cond.initialized eIOB :: vx_atS RX7 248 eIOB exN, vx_ot w = true := by decide +kernel
theorem ng_129 : ∀ w ∈ (vx_atS RX7 129 eIAE exN).filter (fun w => !goodWord w), w ∈ exI.map (fun C => Cond.declares (exInit C)) ++ exC.map (fun C => Cond.castable C C) := by decide +kernel
theorem gd_129 : ∀ w ∈ Cond.classLink RX7 125 eIAE :: Cond.initialized eIAE :: vx_atS RX7 129 eIAE exN, vx_ot w = true := by decide +kernel
theorem ng_219 : ∀ w ∈ (nsAt RX7 219 eNSE exN).filter (fun w => !goodWord w), w ∈ exI.map (fun C => Cond.declares (exInit C)) ++ exC.map (fun C => Cond.castable C C) := by decide +kernel
theorem gd_219 : ∀ w ∈ Cond.classLink RX7 215 eNSE :: Cond.initialized eNSE :: nsAt RX7 219 eNSE exN, vx_ot w = true := by decide +kernel
