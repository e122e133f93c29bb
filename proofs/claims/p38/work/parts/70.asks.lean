/-! ===== p38: the class's calls, over a state of n plants, props and thorns ===== -/
section GOF2
variable {p : Program} {l : Launch} {e : Env} {R : Room} {s : State} {m : MethodId} {args : Array Value} {below : List Frame} {meth : Method} {c : Code} {cells slots : Nat} {Q : State → Prop} {A : Nat → Prop} {D : va_G} {ad : Nat → Nat} {cI cL : ClassId} {nL : Nat} {cc : ByteArray} {own : String} {Ts : List Cond} {pc : Nat} {st : List Value} {μ : Mem} {lv : List (Option Value)}
theorem go_fmul (C : Cx p l s m args meth c cc nL Ts own A D ad cI cL) {x y : UInt32} (hdg : decode cc pc = .ok (.fmul, 1)) (hne : vf_n32 (FP.fmul x y)) (k : Go p l e R s m args below meth c cells slots Q A D ad cI cL nL (pc + 1) (lv) (.float (FP.fmul x y) :: st) (μ)) : Go p l e R s m args below meth c cells slots Q A D ad cI cL nL (pc) (lv) (.float y :: .float x :: st) (μ) :=
  fun ls H locs hl hP hS => lv_fmul C.1.1 C.1.2.1 hdg hne (k ls H locs hl hP hS)
theorem go_fcmp (C : Cx p l s m args meth c cc nL Ts own A D ad cI cL) {x y : UInt32} {op : CmpOp} (hdg : decode cc pc = .ok (.fcmp op, 1)) (k : Go p l e R s m args below meth c cells slots Q A D ad cI cL nL (pc + 1) (lv) (.int (Op.cmpValue (FP.fcmp x y) op) :: st) (μ)) : Go p l e R s m args below meth c cells slots Q A D ad cI cL nL (pc) (lv) (.float y :: .float x :: st) (μ) :=
  fun ls H locs hl hP hS => lv_fcmp C.1.1 C.1.2.1 hdg (k ls H locs hl hP hS)
theorem go_cfV0 (C : Cx p l s m args meth c cc nL Ts own A D ad cI cL) {y : MethodName} {wsY wsY' : List Cond} {rm : Room} {bytes : ByteArray} {maxL index : Nat} {rt : FieldType} {f : UInt32 → Mem → Prop} {k : Nat} {Cn : String} (ho : isObj k Cn) (hM : CtF l D ad cI cL y wsY rm (.ref (ad k) :: []) μ f) (hG : GoodIn Ts (wsV own index Cn y wsY)) (hw : wsY = Cond.code y bytes maxL (some rt) :: wsY') (hyc : y.cls = Cn) (hy : yOK y 0) (h0 : rm.cells = 0 ∧ rm.slots = 0) (hR : rm.frames + 1 ≤ R.frames ∧ 8 + (maxL + 11) + rm.locals ≤ R.locals) (hst : (st.map fun v => v.category).sum ≤ 8) (hcs : cells ≤ R.cells ∧ slots ≤ R.slots) (hdg : decode cc pc = .ok (.invokevirtual index, 3))
    (kk : ∀ (r : UInt32) (μ' : Mem), f r μ' → Go p l e R s m args below meth c cells slots Q A D ad cI cL nL (pc + 3) (lv) (.float r :: st) (μ')) : Go p l e R s m args below meth c cells slots Q A D ad cI cL nL (pc) (lv) (.ref (ad k) :: st) (μ) :=
  fun ls H locs hl hP hS => va_callf (va_runV (As := []) (rest := st) C.1 hM (cwV 0 C.1.2.2.2.2 hG hw h0.1 h0.2 ⟨hyc, hy⟩ hR) (preV_cx C hP ho []) rfl rfl hl.1 rfl (lv_room hst) hdg hcs) hS (fun q _ h => C.2.2.2.2.2.1 q h) C.2.2.2.2.2.1 (fun r μ' t H1 locs1 ht hvm hf hB hz hk1 hS1 => kk r μ' hf ls H1 locs1 hl (by rw [← ht]; exact hB.1) hS1)
end GOF2
theorem CtF.mono {l : Launch} {D : va_G} {ad : Nat → Nat} {cI cL : ClassId} {y : MethodName} {ws : List Cond} {rm : Room} {av : List Value} {μ : Mem} {f g : UInt32 → Mem → Prop} (h : CtF l D ad cI cL y ws rm av μ f) (hfg : ∀ r μ', f r μ' → g r μ') : CtF l D ad cI cL y ws rm av μ g := by
  intro p e ha hc hk s m args below h1 h2 h3 h4
  obtain ⟨t, o, a1, a2, a3, ⟨⟨r, u, b1, b2, b3⟩, b4⟩, b5⟩ := h p e ha hc hk s m args below h1 h2 h3 h4
  exact ⟨t, o, a1, a2, a3, ⟨⟨r, u, b1, hfg _ _ b2, b3⟩, b4⟩, b5⟩
/-- the class holds n plants, the props pr and the thorns th -/
def Bs (n : Nat) (pr : Int32) (th : Nat → Int32) (μ : Mem) : Prop := μ 1 0 = nI n ∧ μ 1 1 = pr ∧ μ 3 = th ∧ TV n pr th ∧ ∃ (q : Nat) (h : Nat → Nat → Int32), CH μ q h
theorem Bs.T {n : Nat} {pr : Int32} {th : Nat → Int32} {μ : Mem} (H : Bs n pr th μ) : TV n pr th := H.2.2.2.1
theorem Bs.keep {n : Nat} {pr : Int32} {th : Nat → Int32} {μ μ' : Mem} (H : Bs n pr th μ) (hs : same μ μ' [14, 17, 19, 22, 24]) : Bs n pr th μ' := by
  obtain ⟨a, b, c, d, q, h, e⟩ := H
  have e1 := hs 1 (by decide)
  have e3 := hs 3 (by decide)
  have e7 := hs 7 (by decide)
  have e9 := hs 9 (by decide)
  exact ⟨by rw [e1]; exact a, by rw [e1]; exact b, by rw [e3]; exact c, d, q, h, by unfold CH at e ⊢; rw [e7, e9]; exact e⟩
theorem q_plantCount {l : Launch} {D : va_G} {ad : Nat → Nat} {cI cL : ClassId} (hfl : l.flags = flags0) (hok : adOK ad) {μ : Mem} {n : Nat} {pr : Int32} {th : Nat → Int32} (H : Bs n pr th μ)  : CtI l D ad cI cL yX7_plantCount wsX7_plantCount (RM 0 0) [.ref (ad 0)] μ (fun (r : Int32) (μ' : Mem) => r = nI n ∧ Bs n pr th μ') := by
  obtain ⟨a, rfl, rfl, d, e⟩ := id H
  have hn := d.1
  exact (c_X7_plantCount hfl hok μ ).mono (fun r μ' h => ⟨h.1.trans a, by rw [h.2]; exact H⟩)
theorem q_thornCount {l : Launch} {D : va_G} {ad : Nat → Nat} {cI cL : ClassId} (hfl : l.flags = flags0) (hok : adOK ad) {μ : Mem} {n : Nat} {pr : Int32} {th : Nat → Int32} (H : Bs n pr th μ)  : CtI l D ad cI cL yX7_thornCount wsX7_thornCount (RM 4 83) [.ref (ad 0)] μ (fun (r : Int32) (μ' : Mem) => r = nI (sumE th / 2) ∧ Bs n pr th μ') := by
  obtain ⟨a, rfl, rfl, d, e⟩ := id H
  have hn := d.1
  exact (c_X7_thornCount hfl hok μ n hn a).mono (fun r μ' h => ⟨h.1.trans (thT_eq d), by rw [h.2]; exact H⟩)
theorem q_triangles {l : Launch} {D : va_G} {ad : Nat → Nat} {cI cL : ClassId} (hfl : l.flags = flags0) (hok : adOK ad) {μ : Mem} {n : Nat} {pr : Int32} {th : Nat → Int32} (H : Bs n pr th μ)  : CtI l D ad cI cL yX7_triangles wsX7_triangles (RM 3 66) [.ref (ad 0)] μ (fun (r : Int32) (μ' : Mem) => r = nI (triN th n) ∧ Bs n pr th μ') := by
  obtain ⟨a, rfl, rfl, d, e⟩ := id H
  have hn := d.1
  exact (c_X7_triangles hfl hok μ a d).mono (fun r μ' h => ⟨h.1, by rw [h.2]; exact H⟩)
theorem q_trianglesBySupport {l : Launch} {D : va_G} {ad : Nat → Nat} {cI cL : ClassId} (hfl : l.flags = flags0) (hok : adOK ad) {μ : Mem} {n : Nat} {pr : Int32} {th : Nat → Int32} (H : Bs n pr th μ)  : CtI l D ad cI cL yX7_trianglesBySupport wsX7_trianglesBySupport (RM 2 43) [.ref (ad 0)] μ (fun (r : Int32) (μ' : Mem) => r = nI (triN th n) ∧ Bs n pr th μ') := by
  obtain ⟨a, rfl, rfl, d, e⟩ := id H
  have hn := d.1
  exact (c_X7_trianglesBySupport hfl hok μ a d).mono (fun r μ' h => ⟨h.1, by rw [h.2]; exact H⟩)
theorem q_colors {l : Launch} {D : va_G} {ad : Nat → Nat} {cI cL : ClassId} (hfl : l.flags = flags0) (hok : adOK ad) {μ : Mem} {n : Nat} {pr : Int32} {th : Nat → Int32} (H : Bs n pr th μ)  : CtI l D ad cI cL yX7_colors wsX7_colors (RM 6 137) [.ref (ad 0)] μ (fun (r : Int32) (μ' : Mem) => r = nI (colM th pr n n) ∧ Bs n pr th μ') := by
  obtain ⟨a, rfl, rfl, d, e⟩ := id H
  have hn := d.1
  exact (c_X7_colors hfl hok μ a d).mono (fun r μ' h => ⟨h.1, by obtain ⟨F, G, hF⟩ := h.2; rw [hF]; exact H.keep (same_ms (same_ms same_rf (by decide)) (by decide))⟩)
theorem q_greatestCore {l : Launch} {D : va_G} {ad : Nat → Nat} {cI cL : ClassId} (hfl : l.flags = flags0) (hok : adOK ad) {μ : Mem} {n : Nat} {pr : Int32} {th : Nat → Int32} (H : Bs n pr th μ)  : CtI l D ad cI cL yX7_greatestCore wsX7_greatestCore (RM 5 114) [.ref (ad 0)] μ (fun (r : Int32) (μ' : Mem) => r = nI (freeN th pr n) ∧ Bs n pr th μ') := by
  obtain ⟨a, rfl, rfl, d, e⟩ := id H
  have hn := d.1
  exact (c_X7_greatestCore hfl hok μ a d).mono (fun r μ' h => ⟨h.1, by rw [h.2]; exact H⟩)
theorem q_averageNeighbors {l : Launch} {D : va_G} {ad : Nat → Nat} {cI cL : ClassId} (hfl : l.flags = flags0) (hok : adOK ad) {μ : Mem} {n : Nat} {pr : Int32} {th : Nat → Int32} (H : Bs n pr th μ) (h0 : n ≠ 0) : CtF l D ad cI cL yX7_averageNeighbors wsX7_averageNeighbors (RM 4 83) [.ref (ad 0)] μ (fun (r : UInt32) (μ' : Mem) => r = FP.fdiv (FP.i2f (nI (sumE th))) (FP.i2f (nI n)) ∧ Bs n pr th μ') := by
  obtain ⟨a, rfl, rfl, d, e⟩ := id H
  have hn := d.1
  exact (c_X7_averageNeighbors hfl hok μ a d).mono (fun r μ' h => ⟨by rw [h.1, avgF, if_neg h0, thT_eq d, show (2 : Int32) = nI 2 from by decide +kernel, pk_mul, sumE_2 d], by rw [h.2]; exact H⟩)
theorem q_neighbors {l : Launch} {D : va_G} {ad : Nat → Nat} {cI cL : ClassId} (hfl : l.flags = flags0) (hok : adOK ad) {μ : Mem} {n : Nat} {pr : Int32} {th : Nat → Int32} (H : Bs n pr th μ) (j : Nat) (hj : j < n) : CtI l D ad cI cL yX7_neighbors wsX7_neighbors (RM 7 111) [.ref (ad 0), .int (nI j)] μ (fun (r : Int32) (μ' : Mem) => r = th j ∧ Bs n pr th μ') := by
  obtain ⟨a, rfl, rfl, d, e⟩ := id H
  have hn := d.1
  exact (c_X7_neighbors hfl hok μ a d j hj).mono (fun r μ' h => ⟨h.1, by rw [h.2]; exact H⟩)
theorem q_isPropped {l : Launch} {D : va_G} {ad : Nat → Nat} {cI cL : ClassId} (hfl : l.flags = flags0) (hok : adOK ad) {μ : Mem} {n : Nat} {pr : Int32} {th : Nat → Int32} (H : Bs n pr th μ) (j : Nat) (hj : j < n) : CtI l D ad cI cL yX7_isPropped wsX7_isPropped (RM 7 111) [.ref (ad 0), .int (nI j)] μ (fun (r : Int32) (μ' : Mem) => r = b2i (bt pr j) ∧ Bs n pr th μ') := by
  obtain ⟨a, rfl, rfl, d, e⟩ := id H
  have hn := d.1
  exact (c_X7_isPropped hfl hok μ a d j hj).mono (fun r μ' h => ⟨h.1, by rw [h.2]; exact H⟩)
theorem q_coreOf {l : Launch} {D : va_G} {ad : Nat → Nat} {cI cL : ClassId} (hfl : l.flags = flags0) (hok : adOK ad) {μ : Mem} {n : Nat} {pr : Int32} {th : Nat → Int32} (H : Bs n pr th μ) (j : Nat) (hj : j < n) : CtI l D ad cI cL yX7_coreOf wsX7_coreOf (RM 7 115) [.ref (ad 0), .int (nI j)] μ (fun (r : Int32) (μ' : Mem) => r = nI (coreN th pr n j) ∧ Bs n pr th μ') := by
  obtain ⟨a, rfl, rfl, d, e⟩ := id H
  have hn := d.1
  exact (c_X7_coreOf hfl hok μ a d j hj).mono (fun r μ' h => ⟨h.1, by rw [h.2]; exact H⟩)
theorem q_coreByRounds {l : Launch} {D : va_G} {ad : Nat → Nat} {cI cL : ClassId} (hfl : l.flags = flags0) (hok : adOK ad) {μ : Mem} {n : Nat} {pr : Int32} {th : Nat → Int32} (H : Bs n pr th μ) (j : Nat) (hj : j < n) : CtI l D ad cI cL yX7_coreByRounds wsX7_coreByRounds (RM 7 134) [.ref (ad 0), .int (nI j)] μ (fun (r : Int32) (μ' : Mem) => r = nI (coreN th pr n j) ∧ Bs n pr th μ') := by
  obtain ⟨a, rfl, rfl, d, e⟩ := id H
  have hn := d.1
  exact (c_X7_coreByRounds hfl hok μ a d j hj).mono (fun r μ' h => ⟨h.1, by obtain ⟨F, hF⟩ := h.2; rw [hF]; exact H.keep (same_ms same_rf (by decide))⟩)
theorem q_placeOf {l : Launch} {D : va_G} {ad : Nat → Nat} {cI cL : ClassId} (hfl : l.flags = flags0) (hok : adOK ad) {μ : Mem} {n : Nat} {pr : Int32} {th : Nat → Int32} (H : Bs n pr th μ) (j : Nat) (hj : j < n) : CtI l D ad cI cL yX7_placeOf wsX7_placeOf (RM 7 114) [.ref (ad 0), .int (nI j)] μ (fun (r : Int32) (μ' : Mem) => r = nI (plN th pr n j) ∧ Bs n pr th μ') := by
  obtain ⟨a, rfl, rfl, d, e⟩ := id H
  have hn := d.1
  exact (c_X7_placeOf hfl hok μ a d j hj).mono (fun r μ' h => ⟨by obtain ⟨x, h1, h2, h3, -⟩ := h.1; rw [h1, pl_eq d hj h2 h3], by obtain ⟨F, hF⟩ := h.2; rw [hF]; exact H.keep (same_ms same_rf (by decide))⟩)
theorem q_colorOf {l : Launch} {D : va_G} {ad : Nat → Nat} {cI cL : ClassId} (hfl : l.flags = flags0) (hok : adOK ad) {μ : Mem} {n : Nat} {pr : Int32} {th : Nat → Int32} (H : Bs n pr th μ) (j : Nat) (hj : j < n) : CtI l D ad cI cL yX7_colorOf wsX7_colorOf (RM 7 136) [.ref (ad 0), .int (nI j)] μ (fun (r : Int32) (μ' : Mem) => r = nI (colN th pr n j) ∧ Bs n pr th μ') := by
  obtain ⟨a, rfl, rfl, d, e⟩ := id H
  have hn := d.1
  exact (c_X7_colorOf hfl hok μ a d j hj).mono (fun r μ' h => ⟨h.1, by obtain ⟨F, G, hF⟩ := h.2; rw [hF]; exact H.keep (same_ms (same_ms same_rf (by decide)) (by decide))⟩)
theorem q_core {l : Launch} {D : va_G} {ad : Nat → Nat} {cI cL : ClassId} (hfl : l.flags = flags0) (hok : adOK ad) {μ : Mem} {n : Nat} {pr : Int32} {th : Nat → Int32} (H : Bs n pr th μ) (k : Nat) (hk : k ≤ 15) : CtI l D ad cI cL yX7_core wsX7_core (RM 7 111) [.ref (ad 0), .int (nI k)] μ (fun (r : Int32) (μ' : Mem) => r = coreI th pr k (allI n) ∧ Bs n pr th μ') := by
  obtain ⟨a, rfl, rfl, d, e⟩ := id H
  have hn := d.1
  exact (c_X7_core hfl hok μ a d k hk).mono (fun r μ' h => ⟨h.1, by rw [h.2]; exact H⟩)
theorem q_corePieces {l : Launch} {D : va_G} {ad : Nat → Nat} {cI cL : ClassId} (hfl : l.flags = flags0) (hok : adOK ad) {μ : Mem} {n : Nat} {pr : Int32} {th : Nat → Int32} (H : Bs n pr th μ) (k : Nat) (hk : k ≤ 15) : CtI l D ad cI cL yX7_corePieces wsX7_corePieces (RM 7 111) [.ref (ad 0), .int (nI k)] μ (fun (r : Int32) (μ' : Mem) => r = nI (piecesI th (coreI th pr k (allI n)) 16).1 ∧ Bs n pr th μ') := by
  obtain ⟨a, rfl, rfl, d, e⟩ := id H
  have hn := d.1
  exact (c_X7_corePieces hfl hok μ a d k hk).mono (fun r μ' h => ⟨h.1, by rw [h.2]; exact H⟩)
theorem q_trussSize {l : Launch} {D : va_G} {ad : Nat → Nat} {cI cL : ClassId} (hfl : l.flags = flags0) (hok : adOK ad) {μ : Mem} {n : Nat} {pr : Int32} {th : Nat → Int32} (H : Bs n pr th μ) (k : Nat) (hk : k ≤ 15) : CtI l D ad cI cL yX7_trussSize wsX7_trussSize (RM 7 111) [.ref (ad 0), .int (nI k)] μ (fun (r : Int32) (μ' : Mem) => r = nI (sumE (trE th n k) / 2) ∧ Bs n pr th μ') := by
  obtain ⟨a, rfl, rfl, d, e⟩ := id H
  have hn := d.1
  exact (c_X7_trussSize hfl hok μ a d k hk).mono (fun r μ' h => ⟨h.1.trans (trS_eq d), by obtain ⟨F, hF⟩ := h.2; rw [hF]; exact H.keep (same_ms same_rf (by decide))⟩)
theorem q_bestProp {l : Launch} {D : va_G} {ad : Nat → Nat} {cI cL : ClassId} (hfl : l.flags = flags0) (hok : adOK ad) {μ : Mem} {n : Nat} {pr : Int32} {th : Nat → Int32} (H : Bs n pr th μ) (k : Nat) (hk : k ≤ 15) (hne : pr ≠ allI n) : CtI l D ad cI cL yX7_bestProp wsX7_bestProp (RM 7 118) [.ref (ad 0), .int (nI k)] μ (fun (r : Int32) (μ' : Mem) => r = nI (bestI th pr n k n).1 ∧ Bs n pr th μ') := by
  obtain ⟨a, rfl, rfl, d, e⟩ := id H
  have hn := d.1
  exact (c_X7_bestProp hfl hok μ a d k hk hne).mono (fun r μ' h => ⟨h.1, by rw [h.2]; exact H⟩)
theorem q_wouldFall {l : Launch} {D : va_G} {ad : Nat → Nat} {cI cL : ClassId} (hfl : l.flags = flags0) (hok : adOK ad) {μ : Mem} {n : Nat} {pr : Int32} {th : Nat → Int32} (H : Bs n pr th μ) (j k : Nat) (hj : j < n) (hk : k ≤ 15) : CtI l D ad cI cL yX7_wouldFall wsX7_wouldFall (RM 7 111) [.ref (ad 0), .int (nI j), .int (nI k)] μ (fun (r : Int32) (μ' : Mem) => r = nI (fallN th pr n j k) ∧ Bs n pr th μ') := by
  obtain ⟨a, rfl, rfl, d, e⟩ := id H
  have hn := d.1
  exact (c_X7_wouldFall hfl hok μ a d j k hj hk).mono (fun r μ' h => ⟨h.1, by rw [h.2]; exact H⟩)
theorem q_support {l : Launch} {D : va_G} {ad : Nat → Nat} {cI cL : ClassId} (hfl : l.flags = flags0) (hok : adOK ad) {μ : Mem} {n : Nat} {pr : Int32} {th : Nat → Int32} (H : Bs n pr th μ) (i j : Nat) (hi : i < n) (hj : j < n) (hb : bt (th i) j = true) : CtI l D ad cI cL yX7_support wsX7_support (RM 8 133) [.ref (ad 0), .int (nI i), .int (nI j)] μ (fun (r : Int32) (μ' : Mem) => r = nI (ct (th i &&& th j)) ∧ Bs n pr th μ') := by
  obtain ⟨a, rfl, rfl, d, e⟩ := id H
  have hn := d.1
  exact (c_X7_support hfl hok μ a d i j hi hj hb).mono (fun r μ' h => ⟨h.1, by rw [h.2]; exact H⟩)
theorem q_trussOf {l : Launch} {D : va_G} {ad : Nat → Nat} {cI cL : ClassId} (hfl : l.flags = flags0) (hok : adOK ad) {μ : Mem} {n : Nat} {pr : Int32} {th : Nat → Int32} (H : Bs n pr th μ) (i j : Nat) (hi : i < n) (hj : j < n) (hb : bt (th i) j = true) : CtI l D ad cI cL yX7_trussOf wsX7_trussOf (RM 8 133) [.ref (ad 0), .int (nI i), .int (nI j)] μ (fun (r : Int32) (μ' : Mem) => r = nI (trN th n i j) ∧ Bs n pr th μ') := by
  obtain ⟨a, rfl, rfl, d, e⟩ := id H
  have hn := d.1
  exact (c_X7_trussOf hfl hok μ a d i j hi hj hb).mono (fun r μ' h => ⟨h.1, by obtain ⟨F, hF⟩ := h.2; rw [hF]; exact H.keep (same_ms same_rf (by decide))⟩)
theorem q_trussByRounds {l : Launch} {D : va_G} {ad : Nat → Nat} {cI cL : ClassId} (hfl : l.flags = flags0) (hok : adOK ad) {μ : Mem} {n : Nat} {pr : Int32} {th : Nat → Int32} (H : Bs n pr th μ) (i j : Nat) (hi : i < n) (hj : j < n) (hb : bt (th i) j = true) : CtI l D ad cI cL yX7_trussByRounds wsX7_trussByRounds (RM 8 140) [.ref (ad 0), .int (nI i), .int (nI j)] μ (fun (r : Int32) (μ' : Mem) => r = nI (trN th n i j) ∧ Bs n pr th μ') := by
  obtain ⟨a, rfl, rfl, d, e⟩ := id H
  have hn := d.1
  exact (c_X7_trussByRounds hfl hok μ a d i j hi hj hb).mono (fun r μ' h => ⟨h.1, by obtain ⟨F, hF⟩ := h.2; rw [hF]; exact H.keep (same_ms same_rf (by decide))⟩)
theorem u_plant {l : Launch} {D : va_G} {ad : Nat → Nat} {cI cL : ClassId} (hfl : l.flags = flags0) (hok : adOK ad) {μ : Mem} {n : Nat} {pr : Int32} {th : Nat → Int32} (H : Bs n pr th μ) (hlt : n < 16) : CtI l D ad cI cL yX7_plant wsX7_plant (RM 6 90) [.ref (ad 0)] μ (fun (r : Int32) (μ' : Mem) => r = nI n ∧ Bs (n + 1) pr th μ') := by
  obtain ⟨a, rfl, rfl, d, q, h0, hC⟩ := id H
  have hn := d.1
  exact (c_X7_plant hfl hok μ a d q h0 hC hlt).mono (fun r μ' h => by
    obtain ⟨h1, h2, w5, hs⟩ := h
    have w1 : μ' 1 0 = nI (n + 1) := by rw [h2]; rfl
    have w2 : μ' 1 1 = μ 1 1 := by rw [h2]; rfl
    have w3 : μ' 3 = μ 3 := hs 3 (by decide)
    have w4 := TV_plant d hlt
    exact ⟨h1, w1, w2, w3, w4, _, _, w5⟩)
theorem u_uproot {l : Launch} {D : va_G} {ad : Nat → Nat} {cI cL : ClassId} (hfl : l.flags = flags0) (hok : adOK ad) {μ : Mem} {n : Nat} {pr : Int32} {th : Nat → Int32} (H : Bs n pr th μ) (j : Nat) (hj : j < n) : CtI l D ad cI cL yX7_uproot wsX7_uproot (RM 7 111) [.ref (ad 0), .int (nI j)] μ (fun (r : Int32) (μ' : Mem) => r = nI (ct (th j)) ∧ Bs (n - 1) (closeG pr (nI j)) (pullT th j) μ') := by
  obtain ⟨a, rfl, rfl, d, q, h0, hC⟩ := id H
  have hn := d.1
  exact (c_X7_uproot hfl hok μ a d q h0 hC j hj).mono (fun r μ' h => by
    obtain ⟨h1, w3, h2, w2, w5, hs⟩ := h
    have w1 : μ' 1 0 = nI (n - 1) := by rw [h2, show (1 : Int32) = nI 1 from rfl, pk_sub (show 1 ≤ n by omega)]
    have w4 := TV_pull d hj
    exact ⟨h1, w1, w2, w3, w4, _, _, w5⟩)
theorem u_bind {l : Launch} {D : va_G} {ad : Nat → Nat} {cI cL : ClassId} (hfl : l.flags = flags0) (hok : adOK ad) {μ : Mem} {n : Nat} {pr : Int32} {th : Nat → Int32} (H : Bs n pr th μ) (i j : Nat) (hi : i < n) (hj : j < n) (hne : i ≠ j) (hb : bt (th i) j = false) : CtI l D ad cI cL yX7_bind wsX7_bind (RM 8 133) [.ref (ad 0), .int (nI i), .int (nI j)] μ (fun (r : Int32) (μ' : Mem) => r = nI (ct (tieE th i j i)) ∧ Bs n pr (tieE th i j) μ') := by
  obtain ⟨a, rfl, rfl, d, q, h0, hC⟩ := id H
  have hn := d.1
  exact (c_X7_bind hfl hok μ a d q h0 hC i j hi hj hne hb).mono (fun r μ' h => by
    obtain ⟨h1, ⟨w1, w2, w3⟩, w5, hs⟩ := h
    have w4 := TVt d hi hj hne hb
    exact ⟨h1, w1, w2, w3, w4, _, _, w5⟩)
theorem u_cut {l : Launch} {D : va_G} {ad : Nat → Nat} {cI cL : ClassId} (hfl : l.flags = flags0) (hok : adOK ad) {μ : Mem} {n : Nat} {pr : Int32} {th : Nat → Int32} (H : Bs n pr th μ) (i j : Nat) (hi : i < n) (hj : j < n) (hne : i ≠ j) (hb : bt (th i) j = true) : CtI l D ad cI cL yX7_cut wsX7_cut (RM 8 133) [.ref (ad 0), .int (nI i), .int (nI j)] μ (fun (r : Int32) (μ' : Mem) => r = nI (ct (untE th i j i)) ∧ Bs n pr (untE th i j) μ') := by
  obtain ⟨a, rfl, rfl, d, q, h0, hC⟩ := id H
  have hn := d.1
  exact (c_X7_cut hfl hok μ a d q h0 hC i j hi hj hne hb).mono (fun r μ' h => by
    obtain ⟨h1, ⟨w1, w2, w3⟩, w5, hs⟩ := h
    have w4 := TVu d (show i < 16 by omega) hb
    exact ⟨h1, w1, w2, w3, w4, _, _, w5⟩)
theorem u_switchProp {l : Launch} {D : va_G} {ad : Nat → Nat} {cI cL : ClassId} (hfl : l.flags = flags0) (hok : adOK ad) {μ : Mem} {n : Nat} {pr : Int32} {th : Nat → Int32} (H : Bs n pr th μ) (j : Nat) (hj : j < n) : CtI l D ad cI cL yX7_switchProp wsX7_switchProp (RM 7 111) [.ref (ad 0), .int (nI j)] μ (fun (r : Int32) (μ' : Mem) => r = b2i (!bt pr j) ∧ Bs n (pr ^^^ bitI (nI j)) th μ') := by
  obtain ⟨a, rfl, rfl, d, q, h0, hC⟩ := id H
  have hn := d.1
  exact (c_X7_switchProp hfl hok μ a d q h0 hC j hj).mono (fun r μ' h => by
    obtain ⟨h1, ⟨w1, w2, w3⟩, w5, hs⟩ := h
    have hT2 := TV_turn (σ := (n, μ 1 1, μ 3)) (j := j) d
    rw [show turnS j (n, μ 1 1, μ 3) = (true, (n, μ 1 1 ^^^ bitI (nI j), μ 3)) from if_pos hj] at hT2
    have w4 : TV n (μ 1 1 ^^^ bitI (nI j)) (μ 3) := hT2
    exact ⟨by rw [h1, b_xor, bitI, b_bit (by omega)]; simp, w1, w2, w3, w4, _, _, w5⟩)
