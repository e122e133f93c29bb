/-! ===== my layer for methods that return or throw ===== -/
abbrev exN : List String := ["java/lang/RuntimeException", "java/lang/Exception"]
abbrev eISE : String := "java/lang/IllegalStateException"
abbrev eIOB : String := "java/lang/IndexOutOfBoundsException"
abbrev eIAE : String := "java/lang/IllegalArgumentException"
abbrev eNSE : String := "java/util/NoSuchElementException"
def strs : List (Nat × String) := [(72, "there are 16 plants"), (105, "they are bound"), (110, "they are not bound"), (127, "the buffer is not a list of changes"), (135, "the buffer has 60 characters"), (147, "the buffer is a list of changes"), (156, "the history is empty"), (165, "there is no snapshot"), (217, "there is no plant to be propped up"), (246, "there is no such plant"), (249, "both plants are the same"), (251, "k is out of range")]
def exC : List String := [eISE, eIOB, eIAE, eNSE]
def exI : List String := ["java/lang/RuntimeException", "java/lang/Exception", "java/lang/Throwable"]
def exInit (C : String) : MethodName := ⟨C, "<init>", "(Ljava/lang/String;)V"⟩
/-- what a throw needs: the two statics of Throwable, which no cell of the world holds, the strings, the constructors' names, the classes -/
def EXs (ad : Nat → Nat) (U : State) (H : Heap) : Prop := vx_Zq Bundle.tN "UNASSIGNED_STACK" Bundle.steD (AW ad) U H ∧ vx_Zq Bundle.tN "SUPPRESSED_SENTINEL" Bundle.listD (AW ad) U H ∧ (∀ q ∈ strs, ∃ sa : Nat, vk_R RX7 q.1 q.2 sa U) ∧ (∀ C ∈ exI, va_Nw (.declares (exInit C)) U) ∧ (∀ C ∈ exC, va_Nw (.castable C C) U) ∧ ∀ C ∈ exC, ∀ T ∈ exC, C ≠ T → va_Nc C T U
theorem EXs.at {ad : Nat → Nat} {s t : State} {H H1 : Heap} (h : EXs ad s H) (hW : s.WarmedH t.vm) (hq : ∀ a : Nat, a < H.size → ¬ AW ad a → H1[a]? = H[a]?) : EXs ad t H1 :=
  ⟨vx_Zq.moved hW.alike (h.1.kept hq), vx_Zq.moved hW.alike (h.2.1.kept hq), fun q hm => (h.2.2.1 q hm).elim (fun sa hs => ⟨sa, vk_R.warm hW hs⟩), fun C hC => va_Nw.warmD hW (h.2.2.2.1 C hC), fun C hC => va_Nw.warmC hW (h.2.2.2.2.1 C hC), fun C hC T hT hne => va_Nc.moved hW.alike (h.2.2.2.2.2 C hC T hT hne)⟩
theorem EXs.same {ad : Nat → Nat} {s t : State} {H : Heap} (h : EXs ad s H) (hv : t.vm = s.vm) : EXs ad t H :=
  ⟨vx_Zq.moved (by rw [hv]; exact Vm.Alike.refl _) h.1, vx_Zq.moved (by rw [hv]; exact Vm.Alike.refl _) h.2.1, fun q hm => (h.2.2.1 q hm).elim (fun sa hs => ⟨sa, vk_R.same hv hs⟩), fun C hC => va_Nw.same rfl hv.symm (h.2.2.2.1 C hC), fun C hC => va_Nw.same rfl hv.symm (h.2.2.2.2.1 C hC), fun C hC T hT hne => va_Nc.moved (by rw [hv]; exact Vm.Alike.refl _) (h.2.2.2.2.2 C hC T hT hne)⟩
def PreX (D : va_G) (ad : Nat → Nat) (cI cL : ClassId) (μ : Mem) (U : State) : Prop := PreW D ad cI cL μ U ∧ EXs ad U U.heap
theorem PreX.calling {D : va_G} {ad : Nat → Nat} {cI cL : ClassId} {μ : Mem} {a : Array Value} {U : State} {g : JFrame} {mk : MethodId} (h : PreX D ad cI cL μ U) : PreX D ad cI cL μ (U.calling g mk a) := ⟨h.1.calling, h.2.same (t := U.calling g mk a) rfl⟩
/-- how it ends where it throws: the class by its name, the numbers as they were -/
def XP (xc : String → Prop) (D : va_G) (ad : Nat → Nat) (cI cL : ClassId) (μ : Mem) : String → State → State → Prop := vx_X (S := Unit) (fun _ => True) (fun E _ t => xc E ∧ va_P D vwCl (wd ad cI cL μ) t.heap) (AW ad)
def CtIX (l : Launch) (D : va_G) (ad : Nat → Nat) (cI cL : ClassId) (y : MethodName) (ws : List Cond) (rm : Room) (av : List Value) (μ : Mem) (f : Int32 → Mem → Prop) (xc : String → Prop) (mc ms : Nat) : Prop :=
  vx_Met l y ws rm (va_Pc av (PreX D ad cI cL μ)) (va_Qi f (fun μ' t => PreX D ad cI cL μ' t) (AW ad)) (XP xc D ad cI cL μ) mc ms (AW ad)
def CtVX (l : Launch) (D : va_G) (ad : Nat → Nat) (cI cL : ClassId) (y : MethodName) (ws : List Cond) (rm : Room) (av : List Value) (μ : Mem) (f : Mem → Prop) (xc : String → Prop) (mc ms : Nat) : Prop :=
  vx_Met l y ws rm (va_Pc av (PreX D ad cI cL μ)) (va_Qv f (fun μ' t => PreX D ad cI cL μ' t) (AW ad)) (XP xc D ad cI cL μ) mc ms (AW ad)
abbrev RMX (fr lo mc ms : Nat) : Room := { frames := fr, cells := mc, slots := ms, locals := lo }
theorem trOff {l : Launch} (h : l.flags = flags0) : l.stackTraces = false := by unfold Launch.stackTraces; rw [h]; decide
section XT
variable {l : Launch} {D : va_G} {ad : Nat → Nat} {cI cL : ClassId} {y : MethodName} {ws ws' : List Cond} {rm : Room} {av : List Value} {μ : Mem} {cc : ByteArray} {maxL mc ms : Nat} {own : String} {xc : String → Prop}
theorem ct_ix {f : Int32 → Mem → Prop} (rt : FieldType) (hfl : l.flags = flags0) (hok : adOK ad) (hy : plainName y.cls = true) (hw : ws = Cond.code y cc maxL (some rt) :: ws') (hown : y.cls = own) (ha : a1 av = true) (hn : av.length ≤ maxL)
    (body : ∀ (p : Program) (e : Env) (s : State) (m : MethodId) (below : List Frame) (meth : Method) (c : Code), Cx p l s m av.toArray meth c cc maxL ws own (AW ad) D ad cI cL → meth.sig.returnType = some rt → EXs ad s s.heap → (∀ x ∈ c.exceptionTable.toList, False) →
      Go p l e (headSpec ws rm).room s m av.toArray below meth c 0 0 (vx_MQ below (va_Qi f (fun μ' t => PreX D ad cI cL μ' t) (AW ad)) (XP xc D ad cI cL μ) av.toArray s mc ms (AW ad)) (AW ad) D ad cI cL maxL 0 (av.map some ++ List.replicate (maxL - av.length) none) [] μ) : CtIX l D ad cI cL y ws rm av μ f xc mc ms := by
  refine vx_ofW (cc := cc) (maxL := maxL) (ret := some rt) hy hw ?_
  intro p e s m args below meth c s₁ B hml hx hv
  obtain ⟨rfl, ⟨hP, hK, hN⟩, hE⟩ := hv
  have hown' : s.vm.findClass own = some m.cls := hown ▸ findClass_of_methodNamed B.named
  rw [lg_entry_eq]
  exact body p e s m below meth c ⟨⟨B.exec, B.bytes, hml, hown', atoms_spec (ws := ws) B.pre⟩, B.notSynchronized, hK, hN, hok, fun _ h => h, hfl⟩ B.returns hE hx _ s.heap [] (lh_entry av maxL ha hn) hP va_S.rf
theorem ct_vx {f : Mem → Prop} (hfl : l.flags = flags0) (hok : adOK ad) (hy : plainName y.cls = true) (hw : ws = Cond.code y cc maxL none :: ws') (hown : y.cls = own) (ha : a1 av = true) (hn : av.length ≤ maxL)
    (body : ∀ (p : Program) (e : Env) (s : State) (m : MethodId) (below : List Frame) (meth : Method) (c : Code), Cx p l s m av.toArray meth c cc maxL ws own (AW ad) D ad cI cL → meth.sig.returnType = none → EXs ad s s.heap → (∀ x ∈ c.exceptionTable.toList, False) →
      Go p l e (headSpec ws rm).room s m av.toArray below meth c 0 0 (vx_MQ below (va_Qv f (fun μ' t => PreX D ad cI cL μ' t) (AW ad)) (XP xc D ad cI cL μ) av.toArray s mc ms (AW ad)) (AW ad) D ad cI cL maxL 0 (av.map some ++ List.replicate (maxL - av.length) none) [] μ) : CtVX l D ad cI cL y ws rm av μ f xc mc ms := by
  refine vx_ofW (cc := cc) (maxL := maxL) (ret := none) hy hw ?_
  intro p e s m args below meth c s₁ B hml hx hv
  obtain ⟨rfl, ⟨hP, hK, hN⟩, hE⟩ := hv
  have hown' : s.vm.findClass own = some m.cls := hown ▸ findClass_of_methodNamed B.named
  rw [lg_entry_eq]
  exact body p e s m below meth c ⟨⟨B.exec, B.bytes, hml, hown', atoms_spec (ws := ws) B.pre⟩, B.notSynchronized, hK, hN, hok, fun _ h => h, hfl⟩ B.returns hE hx _ s.heap [] (lh_entry av maxL ha hn) hP va_S.rf
end XT
section XCALLS
variable {p : Program} {l : Launch} {e : Env} {R : Room} {s : State} {m : MethodId} {args : Array Value} {below : List Frame} {meth : Method} {c : Code} {cells slots mc ms mc1 ms1 : Nat} {D : va_G} {ad : Nat → Nat} {cI cL : ClassId} {nL : Nat} {cc : ByteArray} {own : String} {Ts : List Cond} {pc : Nat} {st : List Value} {μ : Mem} {lv : List (Option Value)} {xc xc1 : String → Prop} {Qc : Array Value → State → Outcome → State → Prop}
theorem PreX.cx (C : Cx p l s m args meth c cc nL Ts own (AW ad) D ad cI cL) (hE : EXs ad s s.heap) {H : Heap} {locs : List Loc} {t : State} (hP : va_P D vwCl (wd ad cI cL μ) H) (hS : va_S (AW ad) s.heap H locs) (ht : t.heap = H) (hW : s.WarmedH t.vm) : PreX D ad cI cL μ t :=
  ⟨PreW.cx C hP ht hW, hE.at hW (by rw [ht]; exact hS.2.1)⟩
theorem go_xiret (C : Cx p l s m args meth c cc nL Ts own (AW ad) D ad cI cL) (hr : meth.sig.returnType = some .int) (hE : EXs ad s s.heap) {v : Int32} {f : Int32 → Mem → Prop} {XC : String → State → State → Prop} (hc : cells ≤ mc ∧ slots ≤ ms) (hdg : decode cc pc = .ok (.ireturn, 1)) (hf : f v μ) : Go p l e R s m args below meth c cells slots (vx_MQ below (va_Qi f (fun μ' t => PreX D ad cI cL μ' t) (AW ad)) XC args s mc ms (AW ad)) (AW ad) D ad cI cL nL pc lv [.int v] μ :=
  fun ls H locs hl hP hS => vx_ret (W.widen hc.1 hc.2 (W.iret C.1.1 C.1.2.1 hr (fun t ht hW => ⟨⟨v, μ, rfl, hf, PreX.cx C hE hP hS ht hW⟩, hS.F ht⟩) hS.2.2 hdg C.2.1))
theorem go_xzret (C : Cx p l s m args meth c cc nL Ts own (AW ad) D ad cI cL) (hr : meth.sig.returnType = some .boolean) (hE : EXs ad s s.heap) {v : Int32} {f : Int32 → Mem → Prop} {XC : String → State → State → Prop} (hc : cells ≤ mc ∧ slots ≤ ms) (hdg : decode cc pc = .ok (.ireturn, 1)) (h01 : v = 0 ∨ v = 1) (hf : f v μ) : Go p l e R s m args below meth c cells slots (vx_MQ below (va_Qi f (fun μ' t => PreX D ad cI cL μ' t) (AW ad)) XC args s mc ms (AW ad)) (AW ad) D ad cI cL nL pc lv [.int v] μ :=
  fun ls H locs hl hP hS => vx_ret (W.widen hc.1 hc.2 (W.zret C.1.1 C.1.2.1 hr (nar_z h01) (fun t ht hW => ⟨⟨v, μ, rfl, hf, PreX.cx C hE hP hS ht hW⟩, hS.F ht⟩) hS.2.2 hdg C.2.1))
theorem go_xvret (C : Cx p l s m args meth c cc nL Ts own (AW ad) D ad cI cL) (hr : meth.sig.returnType = none) (hE : EXs ad s s.heap) {f : Mem → Prop} {XC : String → State → State → Prop} (hc : cells ≤ mc ∧ slots ≤ ms) (hdg : decode cc pc = .ok (.return_, 1)) (hf : f μ) : Go p l e R s m args below meth c cells slots (vx_MQ below (va_Qv f (fun μ' t => PreX D ad cI cL μ' t) (AW ad)) XC args s mc ms (AW ad)) (AW ad) D ad cI cL nL pc lv [] μ :=
  fun ls H locs hl hP hS => vx_ret (W.widen hc.1 hc.2 (W.vret C.1.1 C.1.2.1 hr (fun t ht hW => ⟨⟨μ, rfl, hf, PreX.cx C hE hP hS ht hW⟩, hS.F ht⟩) hS.2.2 hdg C.2.1))
theorem preVX_cx (C : Cx p l s m args meth c cc nL Ts own (AW ad) D ad cI cL) (hE : EXs ad s s.heap) {H : Heap} {locs : List Loc} (hP : va_P D vwCl (wd ad cI cL μ) H) (hS : va_S (AW ad) s.heap H locs) {k : Nat} {Cn : String} (h : isObj k Cn) (As : List Value) : PreV s H Cn (ad k) (va_Pc (.ref (ad k) :: As) (PreX D ad cI cL μ)) As :=
  ⟨fun a U g mk q => ⟨q.1, q.2.calling⟩, h.recv C hP, fun U hU hW => ⟨rfl, PreX.cx C hE hP hS hU hW⟩⟩
/-- the world behind a throw -/
theorem XP.of {H : Heap} {locs : List Loc} {E : String} {t : State} (hS : va_S (AW ad) s.heap H locs) (hx : xc E) (ht : t.heap = H) (hP : va_P D vwCl (wd ad cI cL μ) H) : XP xc D ad cI cL μ E s t := ⟨(), trivial, ⟨hx, by rw [ht]; exact hP⟩, hS.F ht⟩
/-- the two behind a call that may throw: it is not caught here, or it goes on -/
theorem go_xvV1 (C : Cx p l s m args meth c cc nL Ts own (AW ad) D ad cI cL) (hE : EXs ad s s.heap) (ht : ∀ x ∈ c.exceptionTable.toList, False) {y : MethodName} {wsY wsY' : List Cond} {rm : Room} {bytes : ByteArray} {maxL index : Nat} {a : Value} {f : Mem → Prop} {k : Nat} {Cn : String} (ho : isObj k Cn) (hM : CtVX l D ad cI cL y wsY rm (.ref (ad k) :: [a]) μ f xc1 mc1 ms1) (hG : GoodIn Ts (wsV own index Cn y wsY)) (hw : wsY = Cond.code y bytes maxL (none) :: wsY') (hyc : y.cls = Cn) (hy : yOK y 1) (h0 : rm.cells = mc1 ∧ rm.slots = ms1) (hR : rm.frames + 1 ≤ R.frames ∧ 8 + (maxL + 11) + rm.locals ≤ R.locals) (hst : (st.map fun v => v.category).sum ≤ 8) (hcs : cells + mc1 ≤ R.cells ∧ slots + ms1 ≤ R.slots) (hms : cells + mc1 ≤ mc ∧ slots + ms1 ≤ ms) (hdg : decode cc pc = .ok (.invokevirtual index, 3)) (hx : ∀ E, xc1 E → xc E)
    (kk : ∀ (μ' : Mem), f μ' → Go p l e R s m args below meth c (cells + mc1) (slots + ms1) (vx_MQ below Qc (XP xc D ad cI cL μ) args s mc ms (AW ad)) (AW ad) D ad cI cL nL (pc + 3) (lv) (st) (μ')) : Go p l e R s m args below meth c cells slots (vx_MQ below Qc (XP xc D ad cI cL μ) args s mc ms (AW ad)) (AW ad) D ad cI cL nL (pc) (lv) (a :: .ref (ad k) :: st) (μ) :=
  fun ls H locs hl hP hS => vx_callv (vx_runV (As := [a]) (rest := st) C.1 hM (cwV 1 C.1.2.2.2.2 hG hw h0.1 h0.2 ⟨hyc, hy⟩ hR) (preVX_cx C hE hP hS ho [a]) rfl rfl hl.1 rfl (lv_room hst) hdg hcs) hS (fun q _ h => h) (fun q h => h) (fun q _ h => h)
    (fun E ce q9 u t H1 locs1 ht1 hvm hpu hB hz hk1 hS1 hce hcv hcl => vx_out (fun x hx => (ht x hx).elim) C.2.1 hce hcv hcl (fun t1 ht1 _ => XP.of hS1 (hx E hB.1) ht1 (by rw [← ‹t.heap = H1›]; exact hB.2)) hS1.2.2 hms.1 hms.2)
    (fun μ' t H1 locs1 ht hvm hf hB hz hk1 hS1 => kk μ' hf ls H1 locs1 hl (by rw [← ht]; exact hB.1.1) hS1)
theorem go_xvV2 (C : Cx p l s m args meth c cc nL Ts own (AW ad) D ad cI cL) (hE : EXs ad s s.heap) (ht : ∀ x ∈ c.exceptionTable.toList, False) {y : MethodName} {wsY wsY' : List Cond} {rm : Room} {bytes : ByteArray} {maxL index : Nat} {a b : Value} {f : Mem → Prop} {k : Nat} {Cn : String} (ho : isObj k Cn) (hM : CtVX l D ad cI cL y wsY rm (.ref (ad k) :: [a, b]) μ f xc1 mc1 ms1) (hG : GoodIn Ts (wsV own index Cn y wsY)) (hw : wsY = Cond.code y bytes maxL (none) :: wsY') (hyc : y.cls = Cn) (hy : yOK y 2) (h0 : rm.cells = mc1 ∧ rm.slots = ms1) (hR : rm.frames + 1 ≤ R.frames ∧ 8 + (maxL + 11) + rm.locals ≤ R.locals) (hst : (st.map fun v => v.category).sum ≤ 8) (hcs : cells + mc1 ≤ R.cells ∧ slots + ms1 ≤ R.slots) (hms : cells + mc1 ≤ mc ∧ slots + ms1 ≤ ms) (hdg : decode cc pc = .ok (.invokevirtual index, 3)) (hx : ∀ E, xc1 E → xc E)
    (kk : ∀ (μ' : Mem), f μ' → Go p l e R s m args below meth c (cells + mc1) (slots + ms1) (vx_MQ below Qc (XP xc D ad cI cL μ) args s mc ms (AW ad)) (AW ad) D ad cI cL nL (pc + 3) (lv) (st) (μ')) : Go p l e R s m args below meth c cells slots (vx_MQ below Qc (XP xc D ad cI cL μ) args s mc ms (AW ad)) (AW ad) D ad cI cL nL (pc) (lv) (b :: a :: .ref (ad k) :: st) (μ) :=
  fun ls H locs hl hP hS => vx_callv (vx_runV (As := [a, b]) (rest := st) C.1 hM (cwV 2 C.1.2.2.2.2 hG hw h0.1 h0.2 ⟨hyc, hy⟩ hR) (preVX_cx C hE hP hS ho [a, b]) rfl rfl hl.1 rfl (lv_room hst) hdg hcs) hS (fun q _ h => h) (fun q h => h) (fun q _ h => h)
    (fun E ce q9 u t H1 locs1 ht1 hvm hpu hB hz hk1 hS1 hce hcv hcl => vx_out (fun x hx => (ht x hx).elim) C.2.1 hce hcv hcl (fun t1 ht1 _ => XP.of hS1 (hx E hB.1) ht1 (by rw [← ‹t.heap = H1›]; exact hB.2)) hS1.2.2 hms.1 hms.2)
    (fun μ' t H1 locs1 ht hvm hf hB hz hk1 hS1 => kk μ' hf ls H1 locs1 hl (by rw [← ht]; exact hB.1.1) hS1)
theorem wd_kept {H H1 : Heap} (h : va_P D vwCl (wd ad cI cL μ) H) (hq : ∀ q : Nat, q < H.size → H1[q]? = H[q]?) : va_P D vwCl (wd ad cI cL μ) H1 := h.kept (fun k q hk => by
  have := h k q hk
  exact hq _ (va_at.lt this))
theorem EXs.words {H : Heap} (hE : EXs ad s H) : ∀ w ∈ exI.map (fun C => Cond.declares (exInit C)) ++ exC.map (fun C => Cond.castable C C), w.before args s = true := by
  intro w hw
  rcases List.mem_append.mp hw with h | h
  · obtain ⟨C, hC, rfl⟩ := List.mem_map.mp h
    exact va_Nw.use rfl (hE.2.2.2.1 C hC)
  · obtain ⟨C, hC, rfl⟩ := List.mem_map.mp h
    exact va_Nw.use rfl (hE.2.2.2.2.1 C hC)
/-- new X(text) and its throw -/
theorem go_throw (C : Cx p l s m args meth c cc nL Ts RX7 (AW ad) D ad cI cL) (hE : EXs ad s s.heap) (ht : ∀ x ∈ c.exceptionTable.toList, False) {cls text : String} {ik is ic : Nat} (hcls : Bundle.fit cls = true)
    (hk : Cond.classLink RX7 ik cls ∈ Ts) (hini : Cond.initialized cls ∈ Ts) (hat : ∀ w ∈ (vx_atS RX7 ic cls exN).filter goodWord, w ∈ Ts) (hng : ∀ w ∈ (vx_atS RX7 ic cls exN).filter (fun w => !goodWord w), w ∈ exI.map (fun C => Cond.declares (exInit C)) ++ exC.map (fun C => Cond.castable C C))
    (hgood : ∀ w ∈ Cond.classLink RX7 ik cls :: Cond.initialized cls :: vx_atS RX7 ic cls exN, vx_ot w = true) (hstr : (is, text) ∈ strs)
    (d0 : decode cc pc = .ok (.new ik, 3)) (d3 : decode cc (pc + 3) = .ok (.dup, 1)) (d4 : decode cc (pc + 4) = .ok (.ldc is, 2)) (d6 : decode cc (pc + 6) = .ok (.invokespecial ic, 3)) (d9 : decode cc (pc + 9) = .ok (.athrow, 1))
    (hR : 5 < R.frames ∧ 90 ≤ R.locals) (hst : (st.map fun v => v.category).sum ≤ 8) (hcs : cells + 1 ≤ R.cells ∧ slots + 6 ≤ R.slots) (hms : cells + 1 ≤ mc ∧ slots + 6 ≤ ms) (hx : xc cls) :
    Go p l e R s m args below meth c cells slots (vx_MQ below Qc (XP xc D ad cI cL μ) args s mc ms (AW ad)) (AW ad) D ad cI cL nL (pc) (lv) (st) (μ) := by
  intro ls H locs hl hP hS
  obtain ⟨sa, hsa⟩ := hE.2.2.1 _ hstr
  refine vx_throwS (names := exN) (A := AW ad) C.1.1 C.1.2.1 (trOff C.fl) C.1.2.2.2.1 hcls (by decide) (C.1.2.2.2.2 _ hk) (C.1.2.2.2.2 _ hini) hsa ?_ hgood hE.1 hE.2.1 hS ?_ d0 d3 d4 d6 d9 (fun x hx => (ht x hx).elim) hR.1 ?_ hcs.1 hcs.2 C.2.1 ?_ hS.2.2 hms.1 hms.2
  · exact vx_hat (fun w hw => C.1.2.2.2.2 _ (hat w hw)) hng (EXs.words hE)
  · rw [hl.1]; exact C.1.2.2.1.symm
  · have h1 : 13 * (exN.length + 1) + 43 = 82 := rfl
    omega
  · intro t hvm hz hq
    exact ⟨(), trivial, ⟨hx, wd_kept hP hq⟩, Nat.le_trans hS.1 hz, fun q h1 h2 => by rw [hq q (Nat.lt_of_lt_of_le h1 hS.1)]; exact hS.2.1 q h1 h2⟩
end XCALLS
theorem ng_74 : ∀ w ∈ (vx_atS RX7 74 eISE exN).filter (fun w => !goodWord w), w ∈ exI.map (fun C => Cond.declares (exInit C)) ++ exC.map (fun C => Cond.castable C C) := by decide +kernel
theorem gd_74 : ∀ w ∈ Cond.classLink RX7 70 eISE :: Cond.initialized eISE :: vx_atS RX7 74 eISE exN, vx_ot w = true := by decide +kernel
theorem ng_248 : ∀ w ∈ (vx_atS RX7 248 eIOB exN).filter (fun w => !goodWord w), w ∈ exI.map (fun C => Cond.declares (exInit C)) ++ exC.map (fun C => Cond.castable C C) := by decide +kernel
theorem gd_248 : ∀ w ∈ Cond.classLink RX7 244 eIOB :: Cond.initialized eIOB :: vx_atS RX7 248 eIOB exN, vx_ot w = true := by decide +kernel
theorem ng_129 : ∀ w ∈ (vx_atS RX7 129 eIAE exN).filter (fun w => !goodWord w), w ∈ exI.map (fun C => Cond.declares (exInit C)) ++ exC.map (fun C => Cond.castable C C) := by decide +kernel
theorem gd_129 : ∀ w ∈ Cond.classLink RX7 125 eIAE :: Cond.initialized eIAE :: vx_atS RX7 129 eIAE exN, vx_ot w = true := by decide +kernel
theorem ng_219 : ∀ w ∈ (vx_atS RX7 219 eNSE exN).filter (fun w => !goodWord w), w ∈ exI.map (fun C => Cond.declares (exInit C)) ++ exC.map (fun C => Cond.castable C C) := by decide +kernel
theorem gd_219 : ∀ w ∈ Cond.classLink RX7 215 eNSE :: Cond.initialized eNSE :: vx_atS RX7 219 eNSE exN, vx_ot w = true := by decide +kernel
