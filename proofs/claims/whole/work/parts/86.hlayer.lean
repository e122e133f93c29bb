/-! ===== the law's helpers: a call that may throw, caught by the helper's own table ===== -/
def cd1h (_ : String) : Int32 := 1
def cd2h (a : String) (E : String) : Int32 := if E = a then 1 else 2
def cd3h (a b : String) (E : String) : Int32 := if E = a then 1 else if E = b then 2 else 3
def CtL (l : Launch) (D : va_G) (ad : Nat → Nat) (cI cL : ClassId) (y : MethodName) (ws : List Cond) (rm : Room) (av : List Value) (μ : Mem) (f : Int32 → Mem → Prop) (xc : String → Prop) (cd : String → Int32) : Prop :=
  Met l y ws rm (va_Pc av (PreX D ad cI cL μ)) (va_Qi (fun (r : Int32) (μ' : Mem) => (r = 0 ∧ ∃ v μ1, f v μ1 ∧ μ' = mset μ1 33 (upd (μ1 33) 0 v)) ∨ (∃ E, xc E ∧ r = cd E ∧ μ' = μ)) (fun μ' t => PreX D ad cI cL μ' t) (AW ad)) 4 24 (AW ad)
/-- a throw from here on, of the class E -/
def XGo (p : Program) (l : Launch) (e : Env) (R : Room) (s : State) (m : MethodId) (args : Array Value) (below : List Frame) (meth : Method) (c : Code) (cells slots : Nat) (Q : State → Prop) (A : Nat → Prop) (D : va_G) (ad : Nat → Nat) (cI cL : ClassId) (nL : Nat) (pc : Nat) (lv : List (Option Value)) (rest : List Value) (μ : Mem) (E : String) : Prop :=
  ∀ (ls : Array Slot) (H : Heap) (locs : List Loc) (q : Addr) (ce : Cell), lh ls nL lv → va_P D vwCl (wd ad cI cL μ) H → va_S A s.heap H locs → H[q]? = some ce → ce.vm = .none → s.vm.findClass E = some ce.cls → vx_W p l e R s m args below meth c H locs cells slots Q (F0 m pc ls rest) q
section HL
variable {l : Launch} {D : va_G} {ad : Nat → Nat} {cI cL : ClassId} {y : MethodName} {ws ws' : List Cond} {rm : Room} {av : List Value} {μ : Mem} {cc : ByteArray} {maxL : Nat} {own : String} {xc : String → Prop} {cd : String → Int32}
theorem ct_l {f : Int32 → Mem → Prop} {hh : List (Nat × Nat × Nat × Nat)} (hfl : l.flags = flags0) (hok : adOK ad) (hy : plainName y.cls = true) (hw : ws = Cond.codeWith y cc maxL (some .int) hh :: ws') (hown : y.cls = own) (ha : a1 av = true) (hn : av.length ≤ maxL)
    (body : ∀ (p : Program) (e : Env) (s : State) (m : MethodId) (below : List Frame) (meth : Method) (c : Code), Cx p l s m av.toArray meth c cc maxL ws own (AW ad) D ad cI cL → meth.sig.returnType = some .int → EXs ad s s.heap → c.exceptionTable.toList = tableOf hh →
      Go p l e (headSpec ws rm).room s m av.toArray below meth c 0 0 (MQ below (va_Qi (fun (r : Int32) (μ' : Mem) => (r = 0 ∧ ∃ v μ1, f v μ1 ∧ μ' = mset μ1 33 (upd (μ1 33) 0 v)) ∨ (∃ E, xc E ∧ r = cd E ∧ μ' = μ)) (fun μ' t => PreX D ad cI cL μ' t) (AW ad)) av.toArray s 4 24 (AW ad)) (AW ad) D ad cI cL maxL 0 (av.map some ++ List.replicate (maxL - av.length) none) [] μ) : CtL l D ad cI cL y ws rm av μ f xc cd := by
  refine va_MetW (cc := cc) (maxL := maxL) (ret := some .int) (hh := hh) hy hw ?_
  intro p e s m args below meth c s₁ B hml hv
  obtain ⟨rfl, ⟨hP, hK, hN⟩, hE⟩ := hv
  have hown' : s.vm.findClass own = some m.cls := hown ▸ findClass_of_methodNamed B.named
  have hts := atoms_spec (ws := ws) B.pre
  have htab : c.exceptionTable.toList = tableOf hh := vx_table (x := y) B (hts (Cond.codeWith y cc maxL (some .int) hh) (by rw [hw]; exact List.mem_cons_self))
  rw [lg_entry_eq]
  exact body p e s m below meth c ⟨⟨B.exec, B.bytes, hml, hown', hts⟩, B.notSynchronized, hK, hN, hok, fun _ h => h, hfl⟩ B.returns hE htab _ s.heap [] (lh_entry av maxL ha hn) hP va_S.rf
end HL
section HG
variable {p : Program} {l : Launch} {e : Env} {R : Room} {s : State} {m : MethodId} {args : Array Value} {below : List Frame} {meth : Method} {c : Code} {cells slots : Nat} {Q : State → Prop} {A : Nat → Prop} {D : va_G} {ad : Nat → Nat} {cI cL : ClassId} {nL : Nat} {cc : ByteArray} {own : String} {Ts : List Cond} {pc : Nat} {st rest : List Value} {μ : Mem} {lv : List (Option Value)} {xc : String → Prop}
theorem go_tryV (C : Cx p l s m args meth c cc nL Ts own (AW ad) D ad cI cL) (hE : EXs ad s s.heap) {y : MethodName} {wsY wsY' : List Cond} {rm : Room} {bytes : ByteArray} {maxL index n mc1 ms1 : Nat} {rt : FieldType} {As st0 : List Value} {f : Int32 → Mem → Prop} {k : Nat} {Cn : String} (ho : isObj k Cn) (hM : CtIX l D ad cI cL y wsY rm (.ref (ad k) :: As) μ f xc mc1 ms1) (hnA : As.length = n) (hstk : st0 = As.reverse ++ .ref (ad k) :: st) (hG : GoodIn Ts (wsV own index Cn y wsY)) (hw : wsY = Cond.code y bytes maxL (some rt) :: wsY') (hyc : y.cls = Cn) (hy : yOK y n) (h0 : rm.cells = mc1 ∧ rm.slots = ms1) (hR : rm.frames + 1 ≤ R.frames ∧ 8 + (maxL + 11) + rm.locals ≤ R.locals) (hst : (st.map fun v => v.category).sum ≤ 8) (hcs : cells + mc1 ≤ R.cells ∧ slots + ms1 ≤ R.slots) (hdg : decode cc pc = .ok (.invokevirtual index, 3))
    (kx : ∀ E, xc E → XGo p l e R s m args below meth c (cells + mc1) (slots + ms1) Q (AW ad) D ad cI cL nL pc lv st μ E)
    (kk : ∀ (r : Int32) (μ' : Mem), f r μ' → Go p l e R s m args below meth c (cells + mc1) (slots + ms1) Q (AW ad) D ad cI cL nL (pc + 3) (lv) (.int r :: st) (μ')) : Go p l e R s m args below meth c (cells) (slots) Q (AW ad) D ad cI cL nL (pc) (lv) (st0) (μ) :=
  fun ls H locs hl hP hS => vx_calli (vx_runV (As := As) (rest := st) C.1 hM (cwV n C.1.2.2.2.2 hG hw h0.1 h0.2 ⟨hyc, hy⟩ hR) (preVX_cx C hE hP hS ho As) rfl hnA hl.1 hstk (lv_room hst) hdg hcs) hS (fun q _ h => h) (fun q h => h) (fun q _ h => h)
    (fun E ce q9 u t H1 locs1 ht1 hvm hpu hB hz hk1 hS1 hce hcv hcl => kx E hB.1 ls H1 locs1 q9 ce hl (by rw [← ht1]; exact hB.2) hS1 hce hcv hcl)
    (fun r μ' t H1 locs1 ht hvm hf hB hz hk1 hS1 => kk r μ' hf ls H1 locs1 hl (by rw [← ht]; exact hB.1.1) hS1)
theorem xg_0 (C : Cx p l s m args meth c cc nL Ts own A D ad cI cL) (hE : EXs ad s s.heap) {x : ExceptionTableEntry} {suf : List ExceptionTableEntry} (htab : c.exceptionTable.toList = x :: suf) {E : String} (hx : covers x pc = true) (h0 : x.catchType ≠ 0) (hlink : Cond.classLink own x.catchType E ∈ Ts) (hm : E ∈ exC)
    (k : ∀ q : Nat, Go p l e R s m args below meth c (cells) (slots) Q (A) D ad cI cL nL (x.handlerPc) (lv) ([.ref q]) (μ)) : XGo p l e R s m args below meth c cells slots Q A D ad cI cL nL pc lv rest μ E :=
  fun ls H locs q ce hl hP hS hce hcv hcl => vx_catch C.1.2.2.2.1 [] x suf htab (fun z hz => by cases hz) hx h0 (C.1.2.2.2.2 _ hlink) (va_Nw.use rfl (hE.2.2.2.2.1 E hm)) hce hcv hcl (k q ls H locs hl hP hS)
theorem xg_1 (C : Cx p l s m args meth c cc nL Ts own A D ad cI cL) (hE : EXs ad s s.heap) {x0 x : ExceptionTableEntry} {suf : List ExceptionTableEntry} (htab : c.exceptionTable.toList = x0 :: x :: suf) {E E0 : String} (h00 : x0.catchType ≠ 0) (hl0 : Cond.classLink own x0.catchType E0 ∈ Ts) (hm0 : E0 ∈ exC) (hne0 : E ≠ E0) (hx : covers x pc = true) (h0 : x.catchType ≠ 0) (hlink : Cond.classLink own x.catchType E ∈ Ts) (hm : E ∈ exC)
    (k : ∀ q : Nat, Go p l e R s m args below meth c (cells) (slots) Q (A) D ad cI cL nL (x.handlerPc) (lv) ([.ref q]) (μ)) : XGo p l e R s m args below meth c cells slots Q A D ad cI cL nL pc lv rest μ E :=
  fun ls H locs q ce hl hP hS hce hcv hcl => vx_catch C.1.2.2.2.1 [x0] x suf htab (fun z hz => by
      rcases List.mem_cons.mp hz with rfl | hz
      · exact Or.inr ⟨h00, E0, C.1.2.2.2.2 _ hl0, hE.2.2.2.2.2 E hm E0 hm0 hne0⟩
      · cases hz) hx h0 (C.1.2.2.2.2 _ hlink) (va_Nw.use rfl (hE.2.2.2.2.1 E hm)) hce hcv hcl (k q ls H locs hl hP hS)
theorem xg_2 (C : Cx p l s m args meth c cc nL Ts own A D ad cI cL) (hE : EXs ad s s.heap) {x0 x1 x : ExceptionTableEntry} {suf : List ExceptionTableEntry} (htab : c.exceptionTable.toList = x0 :: x1 :: x :: suf) {E E0 E1 : String} (h00 : x0.catchType ≠ 0) (hl0 : Cond.classLink own x0.catchType E0 ∈ Ts) (hm0 : E0 ∈ exC) (hne0 : E ≠ E0) (h01 : x1.catchType ≠ 0) (hl1 : Cond.classLink own x1.catchType E1 ∈ Ts) (hm1 : E1 ∈ exC) (hne1 : E ≠ E1) (hx : covers x pc = true) (h0 : x.catchType ≠ 0) (hlink : Cond.classLink own x.catchType E ∈ Ts) (hm : E ∈ exC)
    (k : ∀ q : Nat, Go p l e R s m args below meth c (cells) (slots) Q (A) D ad cI cL nL (x.handlerPc) (lv) ([.ref q]) (μ)) : XGo p l e R s m args below meth c cells slots Q A D ad cI cL nL pc lv rest μ E :=
  fun ls H locs q ce hl hP hS hce hcv hcl => vx_catch C.1.2.2.2.1 [x0, x1] x suf htab (fun z hz => by
      rcases List.mem_cons.mp hz with rfl | hz
      · exact Or.inr ⟨h00, E0, C.1.2.2.2.2 _ hl0, hE.2.2.2.2.2 E hm E0 hm0 hne0⟩
      · rcases List.mem_cons.mp hz with rfl | hz
        · exact Or.inr ⟨h01, E1, C.1.2.2.2.2 _ hl1, hE.2.2.2.2.2 E hm E1 hm1 hne1⟩
        · cases hz) hx h0 (C.1.2.2.2.2 _ hlink) (va_Nw.use rfl (hE.2.2.2.2.1 E hm)) hce hcv hcl (k q ls H locs hl hP hS)
theorem vp01 : vp_in (0 : Int32) 1 := by unfold vp_in; decide
theorem updL_eq (f : Nat → Int32) (x : Int32) : vp_updL (fun i => (f i).toInt64) (0 : Int32).toNatClampNeg x.toInt64 = fun i => (upd f 0 x i).toInt64 := by
  funext j
  show (if j = 0 then x.toInt64 else (f j).toInt64) = ((if j = 0 then x else f j)).toInt64
  by_cases h : j = 0
  · rw [if_pos h, if_pos h]
  · rw [if_neg h, if_neg h]
theorem go_lastO (C : Cx p l s m args meth c cc nL Ts own A D ad cI cL) {x : Int32} (hdg : decode cc pc = .ok (.lastore, 1)) (kk : Go p l e R s m args below meth c (cells) (slots) Q (A) D ad cI cL nL (pc + 1) (lv) (st) (mset μ 33 (upd (μ 33) 0 x))) : Go p l e R s m args below meth c (cells) (slots) Q (A) D ad cI cL nL (pc) (lv) (.long x.toInt64 :: .int 0 :: .ref (ad 33) :: st) (μ) :=
  fun ls H locs hl hP hS => va_last (q0 := 33) (t0 := 1) (f := fun i => (μ 33 i).toInt64) C.1.1 C.1.2.1 C.2.2.1 hP (wd_D cI cL μ C.2.2.2.2.1 C.2.2.2.2.2.1) hS (by rw [wd_get _ _ _ _ (by decide : 33 < 34)]; rfl) rfl vp01 hdg (fun H1 locs1 hP1 _ hS1 => kk ls H1 locs1 hl (by rw [updL_eq] at hP1; rw [← wd_set ad cI cL μ (by decide : 33 < 34)]; exact hP1) hS1)
theorem go_laldO (C : Cx p l s m args meth c cc nL Ts own A D ad cI cL) (hdg : decode cc pc = .ok (.laload, 1)) (kk : Go p l e R s m args below meth c (cells) (slots) Q (A) D ad cI cL nL (pc + 1) (lv) (.long (μ 33 0).toInt64 :: st) (μ)) : Go p l e R s m args below meth c (cells) (slots) Q (A) D ad cI cL nL (pc) (lv) (.int 0 :: .ref (ad 33) :: st) (μ) :=
  fun ls H locs hl hP hS => va_lald (q0 := 33) (t0 := 1) (f := fun i => (μ 33 i).toInt64) (n := 1) C.1.1 C.1.2.1 C.2.2.1 hP (by rw [wd_get _ _ _ _ (by decide : 33 < 34)]; rfl) rfl vp01 hdg (kk ls H locs hl hP hS)
theorem go_long {x y : Int64} (h : x = y) (k : Go p l e R s m args below meth c (cells) (slots) Q (A) D ad cI cL nL (pc) (lv) (.long y :: st) (μ)) : Go p l e R s m args below meth c (cells) (slots) Q (A) D ad cI cL nL (pc) (lv) (.long x :: st) (μ) := by subst h; exact k
theorem go_hret (C : Cx p l s m args meth c cc nL Ts own (AW ad) D ad cI cL) (hr : meth.sig.returnType = some .int) (hE : EXs ad s s.heap) {v : Int32} {f : Int32 → Mem → Prop} (hc : cells ≤ 4 ∧ slots ≤ 24) (hdg : decode cc pc = .ok (.ireturn, 1)) (hf : f v μ) : Go p l e R s m args below meth c cells slots (MQ below (va_Qi f (fun μ' t => PreX D ad cI cL μ' t) (AW ad)) args s 4 24 (AW ad)) (AW ad) D ad cI cL nL pc lv [.int v] μ :=
  fun ls H locs hl hP hS => W.widen hc.1 hc.2 (W.iret C.1.1 C.1.2.1 hr (fun t ht hW => ⟨⟨v, μ, rfl, hf, PreX.cx C hE hP hS ht hW⟩, hS.F ht⟩) hS.2.2 hdg C.2.1)
end HG

