/-! ===== the law's own rows ===== -/
abbrev AL (s : State) : Nat → Prop := fun q => s.heap.size ≤ q
def CxL (p : Program) (l : Launch) (s : State) (m : MethodId) (b : Nat) (meth : Method) (c : Code) (D : va_G) (ad : Nat → Nat) (cI cL : ClassId) (L : Nat) (xs : Nat → Int32) : Prop :=
  Cx p l s m #[Value.ref b] meth c cL_law 9 lw_tbl RL (AL s) D ad cI cL ∧ EXs ad s s.heap ∧ va_X b L xs s s.heap ∧ b < s.heap.size ∧ L ≤ 1536
abbrev lvN (b : Nat) (ad : Nat → Nat) (t : Nat) : List (Option Value) := [some (.ref b), some (.ref (ad 0)), some (.ref (ad 25)), some (.ref (ad 33)), some (.int (nI (3 * t))), none, none, none, none]
section LW
variable {p : Program} {l : Launch} {e : Env} {R : Room} {s : State} {m : MethodId} {args : Array Value} {below : List Frame} {meth : Method} {c : Code} {cells slots : Nat} {Q : State → Prop} {A : Nat → Prop} {D : va_G} {ad : Nat → Nat} {cI cL : ClassId} {nL : Nat} {cc : ByteArray} {own : String} {Ts : List Cond} {pc : Nat} {st : List Value} {μ : Mem} {lv : List (Option Value)} {b L : Nat} {xs : Nat → Int32}
theorem go_widen {k n : Nat} (h1 : cells ≤ k) (h2 : slots ≤ n) (kk : Go p l e R s m args below meth c (k) (n) Q A D ad cI cL nL (pc) (lv) (st) (μ)) : Go p l e R s m args below meth c (cells) (slots) Q A D ad cI cL nL (pc) (lv) (st) (μ) := fun ls H locs hl hP hS => W.widen h1 h2 (kk ls H locs hl hP hS)
theorem go_sld (CL : CxL p l s m b meth c D ad cI cL L xs) {i : Int32} {j : Nat} (hi : i = nI j) (hj : j < L) (hdg : decode cL_law pc = .ok (.iaload, 1)) (k : Go p l e R s m args below meth c cells slots Q (AL s) D ad cI cL nL (pc + 1) (lv) (.int (xs j) :: st) (μ)) : Go p l e R s m args below meth c cells slots Q (AL s) D ad cI cL nL (pc) (lv) (.int i :: .ref b :: st) (μ) := by
  subst hi
  have hL := CL.2.2.2.2
  intro ls H locs hl hP hS
  refine va_sld CL.1.1.1 CL.1.1.2.1 CL.2.2.1 CL.2.2.2.1 (Nat.not_le.mpr CL.2.2.2.1) hS (vp_in_nI hj (by omega)) hdg ?_
  rw [nI_clamp (by omega)]
  exact k ls H locs hl hP hS
theorem go_slen (CL : CxL p l s m b meth c D ad cI cL L xs) (hdg : decode cL_law pc = .ok (.arraylength, 1)) (k : Go p l e R s m args below meth c cells slots Q (AL s) D ad cI cL nL (pc + 1) (lv) (.int (nI L) :: st) (μ)) : Go p l e R s m args below meth c cells slots Q (AL s) D ad cI cL nL (pc) (lv) (.ref b :: st) (μ) :=
  fun ls H locs hl hP hS => va_slen CL.1.1.1 CL.1.1.2.1 CL.2.2.1 CL.2.2.2.1 (Nat.not_le.mpr CL.2.2.2.1) hS hdg (k ls H locs hl hP hS)
theorem go_ciL (C : Cx p l s m args meth c cc nL Ts own (AL s) D ad cI cL) (hE : EXs ad s s.heap) {y : MethodName} {wsY wsY' : List Cond} {rm : Room} {bytes : ByteArray} {maxL index n : Nat} {hh : List (Nat × Nat × Nat × Nat)} {rt : Option FieldType} {As st0 : List Value} {f : Int32 → Mem → Prop} {xc : String → Prop} {cd : String → Int32} (hM : CtL l D ad cI cL y wsY rm As μ f xc cd) (hnA : As.length = n) (hstk : st0 = As.reverse ++ st) (hG : GoodIn Ts (va_wsS own index y wsY)) (hw : wsY = Cond.codeWith y bytes maxL rt hh :: wsY') (hy : yOK y n) (h0 : rm.cells = 4 ∧ rm.slots = 24) (hR : rm.frames + 1 ≤ R.frames ∧ 8 + (maxL + 11) + rm.locals ≤ R.locals) (hst : (st.map fun v => v.category).sum ≤ 8) (hcs : cells + 4 ≤ R.cells ∧ slots + 24 ≤ R.slots) (hdg : decode cc pc = .ok (.invokestatic index, 3))
    (kk : ∀ (r : Int32) (μ' : Mem), HC μ μ' r f xc cd → Go p l e R s m args below meth c (cells + 4) (slots + 24) Q (AL s) D ad cI cL nL (pc + 3) (lv) (.int r :: st) (μ')) : Go p l e R s m args below meth c cells slots Q (AL s) D ad cI cL nL (pc) (lv) (st0) (μ) :=
  fun ls H locs hl hP hS => va_calli (vx_runSW (As := As) (rest := st) C.1 hM (vx_cwSW n C.1.2.2.2.2 hG hw h0.1 h0.2 hy hR) ⟨fun a U g mk q => ⟨q.1, q.2.calling⟩, fun U hU hW => ⟨rfl, PreW.cx C hP hU hW, hE.at hW (fun a h1 _ => by rw [hU]; exact hS.2.1 a h1 (Nat.not_le.mpr h1))⟩⟩ rfl hnA hl.1 hstk (lv_room hst) hdg hcs) hS (fun q _ h => C.2.2.2.2.2.1 q h) C.2.2.2.2.2.1 (fun r μ' t H1 locs1 ht hvm hf hB hz hk1 hS1 => kk r μ' hf ls H1 locs1 hl (by rw [← ht]; exact hB.1.1) hS1)
theorem nI_3 (t : Nat) : nI (3 * t) + 1 = nI (3 * t + 1) := (nI_succ _).symm
theorem nI_32 (t : Nat) : nI (3 * t) + 2 = nI (3 * t + 2) := by rw [show (2 : Int32) = nI 2 from rfl, nI_add]
theorem nI_33 (t : Nat) : nI (3 * t) + 3 = nI (3 * (t + 1)) := by rw [show (3 : Int32) = nI 3 from rfl, nI_add]; rfl
end LW

theorem avg_0 : (FP.f2d FP.fconst0) &&& 0x7fffffffffffffff ≤ 0x7ff0000000000000 := by decide +kernel
theorem avg_ok64 : ∀ a, a < 241 → ∀ b, b < 16 → (FP.f2d (FP.fdiv (FP.i2f (nI a)) (FP.i2f (nI (b + 1))))) &&& 0x7fffffffffffffff ≤ 0x7ff0000000000000 := by decide +kernel
theorem avg_n64 {n : Nat} {pr : Int32} {th : Nat → Int32} (hT : TV n pr th) : vf_n64 (FP.f2d (avgF th n)) := by
  by_cases hn : n = 0
  · unfold avgF; rw [if_pos hn]; exact avg_0
  · unfold avgF; rw [if_neg hn]
    obtain ⟨a, h1, h2⟩ := th_nat hT
    have h3 := hT.1
    obtain ⟨b, rfl⟩ : ∃ b, n = b + 1 := ⟨n - 1, by omega⟩
    rw [h2]
    exact avg_ok64 a h1 b (by omega)
theorem yok_L_plant : yOK yL_plant 2 := by unfold yOK; decide +kernel
theorem yok_L_uproot : yOK yL_uproot 3 := by unfold yOK; decide +kernel
theorem yok_L_bind : yOK yL_bind 4 := by unfold yOK; decide +kernel
theorem yok_L_cut : yOK yL_cut 4 := by unfold yOK; decide +kernel
theorem yok_L_switchProp : yOK yL_switchProp 3 := by unfold yOK; decide +kernel
theorem yok_L_change : yOK yL_change 2 := by unfold yOK; decide +kernel
theorem yok_L_append : yOK yL_append 3 := by unfold yOK; decide +kernel
theorem yok_L_firstError : yOK yL_firstError 2 := by unfold yOK; decide +kernel
theorem yok_L_undo : yOK yL_undo 2 := by unfold yOK; decide +kernel
theorem yok_L_restoreSnapshot : yOK yL_restoreSnapshot 2 := by unfold yOK; decide +kernel
theorem yok_L_neighbors : yOK yL_neighbors 3 := by unfold yOK; decide +kernel
theorem yok_L_isPropped : yOK yL_isPropped 3 := by unfold yOK; decide +kernel
theorem yok_L_core : yOK yL_core 3 := by unfold yOK; decide +kernel
theorem yok_L_coreOf : yOK yL_coreOf 3 := by unfold yOK; decide +kernel
theorem yok_L_coreByRounds : yOK yL_coreByRounds 3 := by unfold yOK; decide +kernel
theorem yok_L_placeOf : yOK yL_placeOf 3 := by unfold yOK; decide +kernel
theorem yok_L_corePieces : yOK yL_corePieces 3 := by unfold yOK; decide +kernel
theorem yok_L_wouldFall : yOK yL_wouldFall 4 := by unfold yOK; decide +kernel
theorem yok_L_bestProp : yOK yL_bestProp 3 := by unfold yOK; decide +kernel
theorem yok_L_support : yOK yL_support 4 := by unfold yOK; decide +kernel
theorem yok_L_trussOf : yOK yL_trussOf 4 := by unfold yOK; decide +kernel
theorem yok_L_trussByRounds : yOK yL_trussByRounds 4 := by unfold yOK; decide +kernel
theorem yok_L_trussSize : yOK yL_trussSize 3 := by unfold yOK; decide +kernel
theorem yok_L_colorOf : yOK yL_colorOf 3 := by unfold yOK; decide +kernel
