/-! ===== p38: the script's cells; the law's loop ===== -/
abbrev AL (s : State) : Nat → Prop := fun q => s.heap.size ≤ q
section SC
variable {p : Program} {l : Launch} {e : Env} {R : Room} {s : State} {m : MethodId} {args : Array Value} {below : List Frame} {meth : Method} {c : Code} {cells slots : Nat} {Q : State → Prop} {A : Nat → Prop} {D : va_G} {ad : Nat → Nat} {cI cL : ClassId} {nL : Nat} {cc : ByteArray} {own : String} {Ts : List Cond} {pc : Nat} {st : List Value} {μ : Mem} {lv : List (Option Value)} {b L : Nat} {xs : Nat → Int32}
theorem go_sldA (C : Cx p l s m args meth c cc nL Ts own A D ad cI cL) (hX : va_X b L xs s s.heap) (hbl : b < s.heap.size) (hbA : ¬ A b) {j : Nat} (hj : j < L) (hL : L < 2 ^ 31) (hdg : decode cc pc = .ok (.iaload, 1)) (k : Go p l e R s m args below meth c cells slots Q A D ad cI cL nL (pc + 1) (lv) (.int (xs j) :: st) (μ)) : Go p l e R s m args below meth c cells slots Q A D ad cI cL nL (pc) (lv) (.int (nI j) :: .ref b :: st) (μ) := by
  intro ls H locs hl hP hS
  refine va_sld C.1.1 C.1.2.1 hX hbl hbA hS (vp_in_nI hj hL) hdg ?_
  rw [nI_clamp (by omega)]
  exact k ls H locs hl hP hS
theorem go_slenA (C : Cx p l s m args meth c cc nL Ts own A D ad cI cL) (hX : va_X b L xs s s.heap) (hbl : b < s.heap.size) (hbA : ¬ A b) (hdg : decode cc pc = .ok (.arraylength, 1)) (k : Go p l e R s m args below meth c cells slots Q A D ad cI cL nL (pc + 1) (lv) (.int (nI L) :: st) (μ)) : Go p l e R s m args below meth c cells slots Q A D ad cI cL nL (pc) (lv) (.ref b :: st) (μ) :=
  fun ls H locs hl hP hS => va_slen C.1.1 C.1.2.1 hX hbl hbA hS hdg (k ls H locs hl hP hS)
theorem go_widen {k n : Nat} (h1 : cells ≤ k) (h2 : slots ≤ n) (kk : Go p l e R s m args below meth c (k) (n) Q A D ad cI cL nL (pc) (lv) (st) (μ)) : Go p l e R s m args below meth c (cells) (slots) Q A D ad cI cL nL (pc) (lv) (st) (μ) := fun ls H locs hl hP hS => W.widen h1 h2 (kk ls H locs hl hP hS)
end SC
theorem yok_L_cell : yOK yL_cell 2 := by unfold yOK; decide +kernel
/-- a cell of the script, or a number made of its place: any number at all -/
theorem c_L_cell {l : Launch} {D : va_G} {ad : Nat → Nat} {cI cL : ClassId} (hfl : l.flags = flags0) (hok : adOK ad) (μ : Mem) (b L k : Nat) (xs : Nat → Int32) (hL : L < 2 ^ 31) (hk : k < 2 ^ 31) : Met l yL_cell wsL_cell (RM 0 0) (va_Pc [.ref b, .int (nI k)] (fun U => PreW D ad cI cL μ U ∧ va_X b L xs U U.heap ∧ b < U.heap.size ∧ ¬ AW ad b)) (va_Qi (fun (_ : Int32) (μ' : Mem) => μ' = μ) (fun μ' t => PreW D ad cI cL μ' t) (AW ad)) 0 0 (AW ad) := by
  refine Met.ofW (cc := cL_cell) (maxL := 2) (ret := some .int) (by decide) rfl ?_
  intro p e s m args below meth c s₁ B hml hv
  obtain ⟨rfl, ⟨hP, hK, hN⟩, hX, hb, hA⟩ := hv
  have hown' : s.vm.findClass RL = some m.cls := findClass_of_methodNamed B.named
  rw [lg_entry_eq]
  have C : Cx p l s m ([Value.ref b, Value.int (nI k)] : List Value).toArray meth c cL_cell 2 wsL_cell RL (AW ad) D ad cI cL := ⟨⟨B.exec, B.bytes, hml, hown', atoms_spec (ws := wsL_cell) B.pre⟩, B.notSynchronized, hK, hN, hok, fun _ h => h, hfl⟩
  have hr := B.returns
  suffices kk : Go p l e (headSpec wsL_cell (RM 0 0)).room s m ([Value.ref b, Value.int (nI k)] : List Value).toArray below meth c 0 0 (MQ below (va_Qi (fun (_ : Int32) (μ' : Mem) => μ' = μ) (fun μ' t => PreW D ad cI cL μ' t) (AW ad)) ([Value.ref b, Value.int (nI k)] : List Value).toArray s 0 0 (AW ad)) (AW ad) D ad cI cL 2 0 [some (.ref b), some (.int (nI k))] [] μ from kk _ s.heap [] (lh_entry [.ref b, .int (nI k)] 2 rfl (Nat.le_of_ble_eq_true rfl)) hP va_S.rf
  refine go_iload1 C (pc := 0) dL_cell_0 ?_
  refine go_aload0 C (pc := 1) dL_cell_1 ?_
  refine go_slenA C hX hb hA (pc := 2) dL_cell_2 ?_
  refine go_icmp_ge C (pc := 3) (tgt := 12) dL_cell_3 (by decide) (fun h3 => ?_) (fun h3 => ?_)
  · refine go_sipush C (pc := 12) (v := 7919) (by decide) dL_cell_12 ?_
    refine go_iload1 C (pc := 15) dL_cell_15 ?_
    refine go_iconst C (pc := 16) (v := 3) (by decide) dL_cell_16 ?_
    refine go_iadd C (pc := 17) dL_cell_17 ?_
    refine go_imul C (pc := 18) dL_cell_18 ?_
    refine go_iload1 C (pc := 19) dL_cell_19 ?_
    refine go_bipush C (pc := 20) (v := 11) (by decide) dL_cell_20 ?_
    refine go_iadd C (pc := 22) dL_cell_22 ?_
    refine go_imul C (pc := 23) dL_cell_23 ?_
    exact go_iret C hr dL_cell_24 rfl
  · have hkL : k < L := Nat.not_le.mp (fun q => h3 (nI_le q hk))
    refine go_aload0 C (pc := 6) dL_cell_6 ?_
    refine go_iload1 C (pc := 7) dL_cell_7 ?_
    refine go_sldA C hX hb hA (pc := 8) hkL hL dL_cell_8 ?_
    refine go_goto C (pc := 9) (tgt := 24) dL_cell_9 (by decide) ?_
    exact go_iret C hr dL_cell_24 rfl
/-- what the law's rows stand on -/
def CxL (p : Program) (l : Launch) (s : State) (m : MethodId) (b : Nat) (meth : Method) (c : Code) (D : va_G) (ad : Nat → Nat) (cI cL : ClassId) (L : Nat) (xs : Nat → Int32) : Prop :=
  Cx p l s m #[Value.ref b] meth c cL_law 5 lw_tbl RL (AL s) D ad cI cL ∧ va_X b L xs s s.heap ∧ b < s.heap.size ∧ L ≤ 260
section LW
variable {p : Program} {l : Launch} {e : Env} {R : Room} {s : State} {m : MethodId} {args : Array Value} {below : List Frame} {meth : Method} {c : Code} {cells slots : Nat} {Q : State → Prop} {A : Nat → Prop} {D : va_G} {ad : Nat → Nat} {cI cL : ClassId} {nL : Nat} {cc : ByteArray} {own : String} {Ts : List Cond} {pc : Nat} {st : List Value} {μ : Mem} {lv : List (Option Value)} {b L : Nat} {xs : Nat → Int32}
theorem go_cell (CL : CxL p l s m b meth c D ad cI cL L xs) {k : Nat} (hk : k < 2 ^ 31) (hst : (st.map fun v => v.category).sum ≤ 8) (hcs : cells ≤ room_1.cells ∧ slots ≤ room_1.slots) (hdg : decode cL_law pc = .ok (.invokestatic 116, 3))
    (kk : ∀ r : Int32, Go p l e room_1 s m args below meth c cells slots Q (AL s) D ad cI cL nL (pc + 3) (lv) (.int r :: st) (μ)) (hargs : args = #[Value.ref b]) (hnL : nL = 5) : Go p l e room_1 s m args below meth c cells slots Q (AL s) D ad cI cL nL (pc) (lv) (.int (nI k) :: .ref b :: st) (μ) := by
  subst hargs
  subst hnL
  obtain ⟨C, hX, hbl, hL⟩ := CL
  have hbW : ¬ AW ad b := fun h => absurd (C.2.2.2.2.2.1 b h) (Nat.not_le.mpr hbl)
  intro ls H locs hl hP hS
  have hbH : H[b]? = s.heap[b]? := hS.2.1 b hbl (Nat.not_le.mpr hbl)
  refine va_calli (va_runS (As := [Value.ref b, Value.int (nI k)]) (rest := st) C.1 (c_L_cell (D := D) (cI := cI) (cL := cL) C.fl C.ok μ b L k xs (by omega) hk) (va_cwS 2 C.1.2.2.2.2 gL_law_L_cell rfl rfl rfl yok_L_cell ⟨Nat.le_of_ble_eq_true rfl, Nat.le_of_ble_eq_true rfl⟩) ⟨fun a U g mk q => ⟨q.1, q.2.1.calling, va_X.moved (u := U) (U := U.calling g mk a) (Vm.Alike.refl U.vm) q.2.2.1, q.2.2.2⟩, fun U hU hW => ⟨rfl, PreW.cx C hP hU hW, va_X.moved hW.alike (hX.kept (by rw [hU]; exact hbH)), by rw [hU]; exact (Array.getElem?_eq_some_iff.mp (hbH.trans (Array.getElem?_eq_getElem hbl))).1, hbW⟩⟩ rfl rfl hl.1 rfl (lv_room hst) hdg hcs) hS (fun q _ h => C.2.2.2.2.2.1 q h) C.2.2.2.2.2.1 (fun r μ' t H1 locs1 ht hvm hf hB hz hk1 hS1 => ?_)
  subst hf
  exact kk r ls H1 locs1 hl (by rw [← ht]; exact hB.1) hS1
end LW
set_option maxRecDepth 20000 in
set_option maxHeartbeats 4000000 in
theorem law_loop {p : Program} {l : Launch} {e : Env} {s : State} {m : MethodId} {below : List Frame} {meth : Method} {c : Code} {Q : State → Prop} {D : va_G} {ad : Nat → Nat} {cI cL : ClassId} {b L : Nat} {xs : Nat → Int32} (CL : CxL p l s m b meth c D ad cI cL L xs)
    (hend : ∀ (lv : List (Option Value)) (μ : Mem), Go p l e room_1 s m #[Value.ref b] below meth c 25 816 Q (AL s) D ad cI cL 5 98 lv [] μ) : ∀ (d t : Nat) (μ : Mem), 46 = t + d → (∃ (n : Nat) (pr : Int32) (th : Nat → Int32), Bs n pr th μ) → Go p l e room_1 s m #[Value.ref b] below meth c 25 816 Q (AL s) D ad cI cL 5 10 [some (.ref b), some (.ref (ad 0)), some (.int (nI t)), none, none] [] μ := by
  have C := CL.1
  intro d
  induction d with
  | zero =>
    intro t μ hd _
    refine go_iload2 C (pc := 10) dL_law_10 ?_
    refine go_bipush C (pc := 11) (v := 46) (by decide) dL_law_11 ?_
    exact go_icmp_ge C (pc := 13) (tgt := 98) dL_law_13 (by decide) (fun _ => hend _ _) (fun h13 => absurd (show (46 : Int32) ≤ nI t from nI_le (a := 46) (by omega) (by omega)) h13)
  | succ d ih =>
    intro t μ hd hB
    obtain ⟨n0, pr0, th0, H⟩ := hB
    refine go_iload2 C (pc := 10) dL_law_10 ?_
    refine go_bipush C (pc := 11) (v := 46) (by decide) dL_law_11 ?_
    refine go_icmp_ge C (pc := 13) (tgt := 98) dL_law_13 (by decide) (fun h13 => absurd h13 (show ¬ (46 : Int32) ≤ nI t from nI_ge (b := 46) (by omega) (by decide))) (fun _ => ?_)
    refine go_aload0 C (pc := 16) dL_law_16 ?_
    refine go_iload2 C (pc := 17) dL_law_17 ?_
    refine go_cell CL (pc := 18) (by omega) (Nat.le_of_ble_eq_true rfl) ⟨Nat.le_of_ble_eq_true rfl, Nat.le_of_ble_eq_true rfl⟩ dL_law_18 (fun v => ?_) rfl rfl
    refine go_istore3 C (pc := 21) dL_law_21 ?_
    refine go_aload0 C (pc := 22) dL_law_22 ?_
    refine go_iload2 C (pc := 23) dL_law_23 ?_
    refine go_bipush C (pc := 24) (v := 17) (by decide) dL_law_24 ?_
    refine go_iadd C (pc := 26) dL_law_26 ?_
    refine go_top (y := nI (t + 17)) (by rw [show (17 : Int32) = nI 17 from rfl, nI_add]) ?_
    refine go_cell CL (pc := 27) (by omega) (Nat.le_of_ble_eq_true rfl) ⟨Nat.le_of_ble_eq_true rfl, Nat.le_of_ble_eq_true rfl⟩ dL_law_27 (fun w => ?_) rfl rfl
    refine go_istore4 C (pc := 30) dL_law_30 ?_
    refine go_aload1 C (pc := 32) dL_law_32 ?_
    refine go_iload3 C (pc := 33) dL_law_33 ?_
    refine go_iload4 C (pc := 34) dL_law_34 ?_
    refine go_ciS3 C (pc := 36) (c_L_does C.fl C.ok H _ _) gL_law_L_does rfl yok_L_does ⟨rfl, rfl⟩ ⟨Nat.le_of_ble_eq_true rfl, Nat.le_of_ble_eq_true rfl⟩ (Nat.le_of_ble_eq_true rfl) ⟨Nat.le_of_ble_eq_true rfl, Nat.le_of_ble_eq_true rfl⟩ dL_law_36 (fun r1 μ1 hc1 => ?_)
    obtain ⟨rfl, n, pr, th, h0, H1⟩ := hc1
    refine go_if_eq C (pc := 39) (tgt := 90) dL_law_39 (by decide) (fun h39 => ?_) (fun h39 => ?_)
    · exact absurd h39 (by decide)
    · refine go_aload1 C (pc := 42) dL_law_42 ?_
      refine go_iload4 C (pc := 43) dL_law_43 ?_
      refine go_iconst C (pc := 45) (v := 2) (by decide) dL_law_45 ?_
      refine go_ishr C (pc := 46) dL_law_46 ?_
      refine go_bipush C (pc := 47) (v := 6) (by decide) dL_law_47 ?_
      refine go_top (y := nI 6) rfl ?_
      refine go_ciS2 C (pc := 49) (c_L_low C.fl C.ok _ _ _ (by decide) (by decide)) gL_law_L_low rfl yok_L_low ⟨rfl, rfl⟩ ⟨Nat.le_of_ble_eq_true rfl, Nat.le_of_ble_eq_true rfl⟩ (Nat.le_of_ble_eq_true rfl) ⟨Nat.le_of_ble_eq_true rfl, Nat.le_of_ble_eq_true rfl⟩ dL_law_49 (fun r3 μ3 hc3 => ?_)
      obtain ⟨⟨a3, ha3, rfl⟩, hm3⟩ := hc3
      replace hm3 := hm3.symm
      subst hm3
      refine go_ciS2 C (pc := 52) (c_L_isCoreSo C.fl C.ok H1 _ (by omega)) gL_law_L_isCoreSo rfl yok_L_isCoreSo ⟨rfl, rfl⟩ ⟨Nat.le_of_ble_eq_true rfl, Nat.le_of_ble_eq_true rfl⟩ (Nat.le_of_ble_eq_true rfl) ⟨Nat.le_of_ble_eq_true rfl, Nat.le_of_ble_eq_true rfl⟩ dL_law_52 (fun r4 μ4 hc4 => ?_)
      obtain ⟨rfl, H4⟩ := hc4
      refine go_if_eq C (pc := 55) (tgt := 90) dL_law_55 (by decide) (fun h55 => ?_) (fun h55 => ?_)
      · exact absurd h55 (by decide)
      · refine go_aload1 C (pc := 58) dL_law_58 ?_
        refine go_iload3 C (pc := 59) dL_law_59 ?_
        refine go_iconst C (pc := 60) (v := 3) (by decide) dL_law_60 ?_
        refine go_ishr C (pc := 61) dL_law_61 ?_
        refine go_aload1 C (pc := 62) dL_law_62 ?_
        refine go_ciV0 C (pc := 63) obj_0 (q_plantCount C.fl C.ok H4) gL_law_X7_plantCount rfl rfl yok_X7_plantCount ⟨rfl, rfl⟩ ⟨Nat.le_of_ble_eq_true rfl, Nat.le_of_ble_eq_true rfl⟩ (Nat.le_of_ble_eq_true rfl) ⟨Nat.le_of_ble_eq_true rfl, Nat.le_of_ble_eq_true rfl⟩ dL_law_63 (fun r6 μ6 hc6 => ?_)
        obtain ⟨rfl, H6⟩ := hc6
        refine go_ciS2 C (pc := 66) (c_L_low C.fl C.ok _ _ _ h0 (by have := H6.T.1; omega)) gL_law_L_low rfl yok_L_low ⟨rfl, rfl⟩ ⟨Nat.le_of_ble_eq_true rfl, Nat.le_of_ble_eq_true rfl⟩ (Nat.le_of_ble_eq_true rfl) ⟨Nat.le_of_ble_eq_true rfl, Nat.le_of_ble_eq_true rfl⟩ dL_law_66 (fun r7 μ7 hc7 => ?_)
        obtain ⟨⟨a7, ha7, rfl⟩, hm7⟩ := hc7
        replace hm7 := hm7.symm
        subst hm7
        refine go_ciS2 C (pc := 69) (c_L_isPlantSo C.fl C.ok H6 _ (by assumption)) gL_law_L_isPlantSo rfl yok_L_isPlantSo ⟨rfl, rfl⟩ ⟨Nat.le_of_ble_eq_true rfl, Nat.le_of_ble_eq_true rfl⟩ (Nat.le_of_ble_eq_true rfl) ⟨Nat.le_of_ble_eq_true rfl, Nat.le_of_ble_eq_true rfl⟩ dL_law_69 (fun r8 μ8 hc8 => ?_)
        obtain ⟨rfl, H8⟩ := hc8
        refine go_if_eq C (pc := 72) (tgt := 90) dL_law_72 (by decide) (fun h72 => ?_) (fun h72 => ?_)
        · exact absurd h72 (by decide)
        · refine go_aload1 C (pc := 75) dL_law_75 ?_
          refine go_iload4 C (pc := 76) dL_law_76 ?_
          refine go_iconst C (pc := 78) (v := 1) (by decide) dL_law_78 ?_
          refine go_ishr C (pc := 79) dL_law_79 ?_
          refine go_iconst C (pc := 80) (v := 5) (by decide) dL_law_80 ?_
          refine go_top (y := nI 5) rfl ?_
          refine go_ciS2 C (pc := 81) (c_L_low C.fl C.ok _ _ _ (by decide) (by decide)) gL_law_L_low rfl yok_L_low ⟨rfl, rfl⟩ ⟨Nat.le_of_ble_eq_true rfl, Nat.le_of_ble_eq_true rfl⟩ (Nat.le_of_ble_eq_true rfl) ⟨Nat.le_of_ble_eq_true rfl, Nat.le_of_ble_eq_true rfl⟩ dL_law_81 (fun r10 μ10 hc10 => ?_)
          obtain ⟨⟨a10, ha10, rfl⟩, hm10⟩ := hc10
          replace hm10 := hm10.symm
          subst hm10
          refine go_ciS2 C (pc := 84) (c_L_areTotalsSo C.fl C.ok H8 _ (by omega) h0) gL_law_L_areTotalsSo rfl yok_L_areTotalsSo ⟨rfl, rfl⟩ ⟨Nat.le_of_ble_eq_true rfl, Nat.le_of_ble_eq_true rfl⟩ (Nat.le_of_ble_eq_true rfl) ⟨Nat.le_of_ble_eq_true rfl, Nat.le_of_ble_eq_true rfl⟩ dL_law_84 (fun r11 μ11 hc11 => ?_)
          obtain ⟨rfl, H11⟩ := hc11
          refine go_if_ne C (pc := 87) (tgt := 92) dL_law_87 (by decide) (fun h87 => ?_) (fun h87 => ?_)
          · refine go_iinc2 C (pc := 92) (v := 1) dL_law_92 (by decide) ?_
            refine go_goto C (pc := 95) (tgt := 10) dL_law_95 (by decide) ?_
            exact go_drop4 (go_drop3 (go_lv (by rw [nI_1]) (ih (t + 1) _ (by omega) ⟨n, pr, th, H11⟩)))
          · exact absurd h87 (by decide)
