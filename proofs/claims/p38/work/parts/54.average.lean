/-! ===== averageNeighbors, of the class and of the model ===== -/
theorem all_one {n : Nat} {pr : Int32} {th : Nat → Int32} (hT : TV n pr th) {i : Nat} (hi : i < 16) : bcI (rowAt th 16 (nI i)) = nI (ct (th i)) := by rw [rowAt_nI (by decide) hi, bc_ct (sm_row hT hi)]
def CtF (l : Launch) (D : va_G) (ad : Nat → Nat) (cI cL : ClassId) (y : MethodName) (ws : List Cond) (rm : Room) (av : List Value) (μ : Mem) (f : UInt32 → Mem → Prop) : Prop :=
  Met l y ws rm (va_Pc av (PreW D ad cI cL μ)) (va_Qf f (fun μ' t => PreW D ad cI cL μ' t) (AW ad)) 0 0 (AW ad)
theorem ct_f {l : Launch} {D : va_G} {ad : Nat → Nat} {cI cL : ClassId} {y : MethodName} {ws ws' : List Cond} {rm : Room} {av : List Value} {μ : Mem} {cc : ByteArray} {maxL : Nat} {own : String} {f : UInt32 → Mem → Prop} (hfl : l.flags = flags0) (hok : adOK ad) (hy : plainName y.cls = true) (hw : ws = Cond.code y cc maxL (some .float) :: ws') (hown : y.cls = own) (ha : a1 av = true) (hn : av.length ≤ maxL)
    (body : ∀ (p : Program) (e : Env) (s : State) (m : MethodId) (below : List Frame) (meth : Method) (c : Code), Cx p l s m av.toArray meth c cc maxL ws own (AW ad) D ad cI cL → meth.sig.returnType = some .float →
      Go p l e (headSpec ws rm).room s m av.toArray below meth c 0 0 (MQ below (va_Qf f (fun μ' t => PreW D ad cI cL μ' t) (AW ad)) av.toArray s 0 0 (AW ad)) (AW ad) D ad cI cL maxL 0 (av.map some ++ List.replicate (maxL - av.length) none) [] μ) : CtF l D ad cI cL y ws rm av μ f := by
  refine Met.ofW (cc := cc) (maxL := maxL) (ret := some .float) hy hw ?_
  intro p e s m args below meth c s₁ B hml hv
  obtain ⟨rfl, hP, hK, hN⟩ := hv
  have hown' : s.vm.findClass own = some m.cls := hown ▸ findClass_of_methodNamed B.named
  rw [lg_entry_eq]
  exact body p e s m below meth c ⟨⟨B.exec, B.bytes, hml, hown', atoms_spec (ws := ws) B.pre⟩, B.notSynchronized, hK, hN, hok, fun _ h => h, hfl⟩ B.returns _ s.heap [] (lh_entry av maxL ha hn) hP va_S.rf
section GOF
variable {p : Program} {l : Launch} {e : Env} {R : Room} {s : State} {m : MethodId} {args : Array Value} {below : List Frame} {meth : Method} {c : Code} {cells slots : Nat} {Q : State → Prop} {A : Nat → Prop} {D : va_G} {ad : Nat → Nat} {cI cL : ClassId} {nL : Nat} {cc : ByteArray} {own : String} {Ts : List Cond} {pc : Nat} {st : List Value} {μ : Mem} {lv : List (Option Value)}
theorem go_fret (C : Cx p l s m args meth c cc nL Ts own (AW ad) D ad cI cL) (hr : meth.sig.returnType = some .float) {v : UInt32} {f : UInt32 → Mem → Prop} (hdg : decode cc pc = .ok (.freturn, 1)) (hf : f v μ) : Go p l e R s m args below meth c 0 0 (MQ below (va_Qf f (fun μ' t => PreW D ad cI cL μ' t) (AW ad)) args s 0 0 (AW ad)) (AW ad) D ad cI cL nL pc lv [.float v] μ :=
  fun ls H locs hl hP hS => W.fret C.1.1 C.1.2.1 hr (fun t ht hW => ⟨⟨v, μ, rfl, hf, PreW.cx C hP ht hW⟩, hS.F ht⟩) hS.2.2 hdg C.2.1
theorem go_fconst0 (C : Cx p l s m args meth c cc nL Ts own A D ad cI cL) (hdg : decode cc pc = .ok (.fconst 0, 1)) (k : Go p l e R s m args below meth c cells slots Q A D ad cI cL nL (pc + 1) (lv) (.float FP.fconst0 :: st) (μ)) : Go p l e R s m args below meth c cells slots Q A D ad cI cL nL (pc) (lv) (st) (μ) :=
  fun ls H locs hl hP hS => lv_fconst0 C.1.1 C.1.2.1 hdg (k ls H locs hl hP hS)
theorem go_fdiv (C : Cx p l s m args meth c cc nL Ts own A D ad cI cL) {x y : UInt32} (hdg : decode cc pc = .ok (.fdiv, 1)) (hne : vf_n32 (FP.fdiv x y)) (k : Go p l e R s m args below meth c cells slots Q A D ad cI cL nL (pc + 1) (lv) (.float (FP.fdiv x y) :: st) (μ)) : Go p l e R s m args below meth c cells slots Q A D ad cI cL nL (pc) (lv) (.float y :: .float x :: st) (μ) :=
  fun ls H locs hl hP hS => lv_fdiv C.1.1 C.1.2.1 hdg hne (k ls H locs hl hP hS)
end GOF
theorem avg_ok : ∀ a, a < 241 → ∀ b, b < 16 → (FP.fdiv (FP.i2f (nI a)) (FP.i2f (nI (b + 1)))) &&& 0x7fffffff ≤ 0x7f800000 := by decide +kernel
def thT (th : Nat → Int32) (n : Nat) : Int32 := sumI (fun k => bcI (rowAt th 16 (nI k))) n / 2
theorem th_nat {n : Nat} {pr : Int32} {th : Nat → Int32} (hT : TV n pr th) : ∃ a, a < 241 ∧ 2 * thT th n = nI a := by
  have hn := hT.1
  have h : ∀ i, i ≤ n → ∃ S, S ≤ 15 * i ∧ sumI (fun k => bcI (rowAt th 16 (nI k))) i = nI S := by
    intro i
    induction i with
    | zero => exact fun _ => ⟨0, Nat.le_refl _, rfl⟩
    | succ i ih =>
      intro hi
      obtain ⟨S, h1, h2⟩ := ih (by omega)
      have h3 : ct (th i) ≤ 15 := ct_th hT (by omega)
      exact ⟨S + ct (th i), by omega, by rw [sumI, h2, all_one hT (by omega), nI_add]⟩
  obtain ⟨S, h1, h2⟩ := h n (Nat.le_refl _)
  refine ⟨2 * (S / 2), by omega, ?_⟩
  unfold thT
  rw [h2, show (2 : Int32) = nI 2 from by decide +kernel, pk_div (by omega) (by decide) (by decide), pk_mul]
def avgF (th : Nat → Int32) (n : Nat) : UInt32 := if n = 0 then FP.fconst0 else FP.fdiv (FP.i2f (2 * thT th n)) (FP.i2f (nI n))
theorem avg_n {n : Nat} {pr : Int32} {th : Nat → Int32} (hT : TV n pr th) (h : n ≠ 0) : vf_n32 (FP.fdiv (FP.i2f (2 * thT th n)) (FP.i2f (nI n))) := by
  obtain ⟨a, h1, h2⟩ := th_nat hT
  have hn := hT.1
  obtain ⟨b, rfl⟩ : ∃ b, n = b + 1 := ⟨n - 1, by omega⟩
  rw [h2]
  exact avg_ok a h1 b (by omega)
theorem yok_X7_averageNeighbors : yOK yX7_averageNeighbors 0 := by unfold yOK; decide +kernel
theorem hi_X7_averageNeighbors_RX7 : ∀ w ∈ wsX70, w ∈ wsX7_averageNeighbors := by decide +kernel
theorem lk_X7_averageNeighbors_10 : Cond.fieldLink RX7 10 "ThornCores" "thicket" "LThornCores$Thicket;" ∈ wsX7_averageNeighbors := by decide +kernel
theorem hi_X7_averageNeighbors_RX5 : ∀ w ∈ wsX50, w ∈ wsX7_averageNeighbors := by decide +kernel
set_option maxRecDepth 20000 in
set_option maxHeartbeats 4000000 in
theorem c_X7_averageNeighbors {l : Launch} {D : va_G} {ad : Nat → Nat} {cI cL : ClassId} (hfl : l.flags = flags0) (hok : adOK ad) (μ : Mem) {n : Nat} (hc : μ 1 0 = nI n) (hT : TV n (μ 1 1) (μ 3)) : CtF l D ad cI cL yX7_averageNeighbors wsX7_averageNeighbors (RM 4 83) [.ref (ad 0)] μ (fun (r : UInt32) (μ' : Mem) => r = avgF (μ 3) n ∧ μ' = μ) := by
  refine ct_f (cc := cX7_averageNeighbors) (maxL := 1) (own := RX7) hfl hok (by decide) rfl rfl rfl (Nat.le_of_ble_eq_true rfl) (fun p e s m below meth c C hr => ?_)
  refine go_lv (lv' := [some (.ref (ad 0))]) rfl ?_
  have hn := hT.1
  refine go_aload0 C (pc := 0) dX7_averageNeighbors_0 ?_
  refine go_get C (pc := 1) 0 (by decide) rfl rfl 0 (by decide) rfl rfl hi_X7_averageNeighbors_RX7 lk_X7_averageNeighbors_10 dX7_averageNeighbors_1 ?_
  refine go_getN C (pc := 4) 1 (by decide) rfl rfl 0 (by decide) rfl rfl hi_X7_averageNeighbors_RX5 (host := "ThornCores") (by decide +kernel) dX7_averageNeighbors_4 ?_
  refine go_top (y := nI n) hc ?_
  refine go_if_ne C (pc := 7) (tgt := 12) dX7_averageNeighbors_7 (by decide) (fun h7 => ?_) (fun h7 => ?_)
  · have hn0 : n ≠ 0 := fun y => h7 (by rw [y]; rfl)
    refine go_iconst C (pc := 12) (v := 2) (by decide) dX7_averageNeighbors_12 ?_
    refine go_aload0 C (pc := 13) dX7_averageNeighbors_13 ?_
    refine go_get C (pc := 14) 0 (by decide) rfl rfl 0 (by decide) rfl rfl hi_X7_averageNeighbors_RX7 lk_X7_averageNeighbors_10 dX7_averageNeighbors_14 ?_
    refine go_ciV0 C (pc := 17) obj_1 (c_X5_allThorns C.fl C.ok _ n hn hc) gX7_averageNeighbors_X5_allThorns rfl rfl yok_X5_allThorns ⟨rfl, rfl⟩ ⟨Nat.le_of_ble_eq_true rfl, Nat.le_of_ble_eq_true rfl⟩ (Nat.le_of_ble_eq_true rfl) ⟨Nat.zero_le _, Nat.zero_le _⟩ dX7_averageNeighbors_17 (fun r2 μ2 hc2 => ?_)
    obtain ⟨rfl, hm2⟩ := hc2
    replace hm2 := hm2.symm
    subst hm2
    refine go_top (y := thT (μ 3) n) rfl ?_
    refine go_imul C (pc := 20) dX7_averageNeighbors_20 ?_
    refine go_i2f C (pc := 21) dX7_averageNeighbors_21 ?_
    refine go_aload0 C (pc := 22) dX7_averageNeighbors_22 ?_
    refine go_get C (pc := 23) 0 (by decide) rfl rfl 0 (by decide) rfl rfl hi_X7_averageNeighbors_RX7 lk_X7_averageNeighbors_10 dX7_averageNeighbors_23 ?_
    refine go_getN C (pc := 26) 1 (by decide) rfl rfl 0 (by decide) rfl rfl hi_X7_averageNeighbors_RX5 (host := "ThornCores") (by decide +kernel) dX7_averageNeighbors_26 ?_
    refine go_top (y := nI n) hc ?_
    refine go_i2f C (pc := 29) dX7_averageNeighbors_29 ?_
    refine go_fdiv C (pc := 30) dX7_averageNeighbors_30 (avg_n hT hn0) ?_
    exact go_fret C hr dX7_averageNeighbors_31 ⟨by rw [avgF, if_neg hn0], rfl⟩
  · refine go_fconst0 C (pc := 10) dX7_averageNeighbors_10 ?_
    exact go_fret C hr dX7_averageNeighbors_11 ⟨by rw [avgF, if_pos (nI_inj3 (by omega) (by decide) (h7.trans (show (0 : Int32) = nI 0 from rfl)))], rfl⟩
