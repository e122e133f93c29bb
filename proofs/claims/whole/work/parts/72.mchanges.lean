/-! ===== ThornCoresModel: what changes the thicket ===== -/
theorem updS {s t : Nat → Int32} {v v' : Int32} {i : Nat} (h : ∀ a, a < 16 → s (2 + a) = t a) (hv : v = v') : ∀ a, a < 16 → upd s (2 + i) v (2 + a) = upd t i v' a := fun a ha => by
  by_cases e : a = i
  · subst e; rw [pk_us, pk_us, hv]
  · rw [pk_un e, pk_un (by omega)]; exact h a ha
theorem Mo.rows {μ : Mem} {n : Nat} {pr : Int32} {th : Nat → Int32} {f t : Nat → Int32} (hM : Mo μ n pr th) (h0 : f 0 = μ 26 0) (h1 : f 1 = μ 26 1) (h : ∀ a, a < 16 → f (2 + a) = t a) : Mo (mset μ 26 f) n pr t := ⟨h0.trans hM.1, h1.trans hM.2.1, h⟩
theorem same_tr {μ μ1 μ2 : Mem} {L1 L2 L : List Nat} (h1 : same μ μ1 L1) (h2 : same μ1 μ2 L2) (s1 : ∀ k ∈ L1, k ∈ L) (s2 : ∀ k ∈ L2, k ∈ L) : same μ μ2 L := fun k hk => (h2 k (fun q => hk (s2 k q))).trans (h1 k (fun q => hk (s1 k q)))
theorem MH.same {μ μ' : Mem} {q : Nat} {h : Nat → Nat → Int32} {L : List Nat} (hH : MH μ q h) (hs : same μ μ' L) (h1 : 25 ∉ L) (h2 : 27 ∉ L) : MH μ' q h := by
  unfold MH; rw [hs 25 h1, hs 27 h2]; exact hH
theorem yok_X8_binds : yOK yX8_binds 2 := by unfold yOK; decide +kernel
theorem hi_X8_binds_RX8 : ∀ w ∈ wsX80, w ∈ wsX8_binds := by decide +kernel
theorem lk_X8_binds_7 : Cond.fieldLink RX8 7 "ThornCoresModel" "s" "[I" ∈ wsX8_binds := by decide +kernel
set_option maxRecDepth 20000 in
set_option maxHeartbeats 4000000 in
theorem c_X8_binds {l : Launch} {D : va_G} {ad : Nat → Nat} {cI cL : ClassId} (hfl : l.flags = flags0) (hok : adOK ad) (μ : Mem) (i j : Nat) {n : Nat} {pr : Int32} {th : Nat → Int32} (hM : Mo μ n pr th) (hT : TV n pr th) (hi : i < 16) (hj : j < 16) : CtI l D ad cI cL yX8_binds wsX8_binds (RM 1 22) [.ref (ad 25), .int (nI i), .int (nI j)] μ (fun (r : Int32) (μ' : Mem) => r = nI (ct (tieE th i j i)) ∧ Mo μ' n pr (tieE th i j) ∧ same μ μ' [26]) := by
  refine ct_i (cc := cX8_binds) (maxL := 3) (own := RX8) .int hfl hok (by decide) rfl rfl rfl (Nat.le_of_ble_eq_true rfl) (fun p e s m below meth c C hr => ?_)
  refine go_lv (lv' := [some (.ref (ad 25)), some (.int (nI i)), some (.int (nI j))]) rfl ?_
  obtain ⟨hs0, hs1, hth⟩ := id hM
  have hn := hT.1
  refine go_aload0 C (pc := 0) dX8_binds_0 ?_
  refine go_get C (pc := 1) 25 (by decide) rfl rfl 0 (by decide) rfl rfl hi_X8_binds_RX8 lk_X8_binds_7 dX8_binds_1 ?_
  refine go_iconst C (pc := 4) (v := 2) (by decide) dX8_binds_4 ?_
  refine go_iload1 C (pc := 5) dX8_binds_5 ?_
  refine go_iadd C (pc := 6) dX8_binds_6 ?_
  refine go_top (y := nI (2 + i)) (by rw [show (2 : Int32) = nI 2 from by decide +kernel, nI_add]) ?_
  refine go_dup2 C (pc := 7) rfl rfl dX8_binds_7 ?_
  refine go_ialdN C (pc := 8) arr_26 (i := (2 + i)) (by omega) dX8_binds_8 ?_
  refine go_iconst C (pc := 9) (v := 1) (by decide) dX8_binds_9 ?_
  refine go_iload2 C (pc := 10) dX8_binds_10 ?_
  refine go_ishl C (pc := 11) dX8_binds_11 ?_
  refine go_ior C (pc := 12) dX8_binds_12 ?_
  refine go_iastN C (pc := 13) arr_26 (i := (2 + i)) (by omega) dX8_binds_13 ?_
  refine go_aload0 C (pc := 14) dX8_binds_14 ?_
  refine go_get C (pc := 15) 25 (by decide) rfl rfl 0 (by decide) rfl rfl hi_X8_binds_RX8 lk_X8_binds_7 dX8_binds_15 ?_
  refine go_iconst C (pc := 18) (v := 2) (by decide) dX8_binds_18 ?_
  refine go_iload2 C (pc := 19) dX8_binds_19 ?_
  refine go_iadd C (pc := 20) dX8_binds_20 ?_
  refine go_top (y := nI (2 + j)) (by rw [show (2 : Int32) = nI 2 from by decide +kernel, nI_add]) ?_
  refine go_dup2 C (pc := 21) rfl rfl dX8_binds_21 ?_
  refine go_ialdN C (pc := 22) arr_26 (i := (2 + j)) (by omega) dX8_binds_22 ?_
  refine go_iconst C (pc := 23) (v := 1) (by decide) dX8_binds_23 ?_
  refine go_iload1 C (pc := 24) dX8_binds_24 ?_
  refine go_ishl C (pc := 25) dX8_binds_25 ?_
  refine go_ior C (pc := 26) dX8_binds_26 ?_
  refine go_iastN C (pc := 27) arr_26 (i := (2 + j)) (by omega) dX8_binds_27 ?_
  refine go_aload0 C (pc := 28) dX8_binds_28 ?_
  refine go_get C (pc := 29) 25 (by decide) rfl rfl 0 (by decide) rfl rfl hi_X8_binds_RX8 lk_X8_binds_7 dX8_binds_29 ?_
  refine go_iconst C (pc := 32) (v := 2) (by decide) dX8_binds_32 ?_
  refine go_iload1 C (pc := 33) dX8_binds_33 ?_
  refine go_iadd C (pc := 34) dX8_binds_34 ?_
  refine go_top (y := nI (2 + i)) (by rw [show (2 : Int32) = nI 2 from by decide +kernel, nI_add]) ?_
  refine go_ialdN C (pc := 35) arr_26 (i := (2 + i)) (by omega) dX8_binds_35 ?_
  refine go_top (y := tieE th i j i) ((updS (i := j) (updS (i := i) hth (congrArg (fun z => z ||| _) (hth i hi))) (congrArg (fun z => z ||| _) (updS (i := i) hth (congrArg (fun z => z ||| _) (hth i hi)) j hj))) i hi) ?_
  refine go_ciS1 C (pc := 36) (c_X8_bits C.fl C.ok _ _ ) gX8_binds_X8_bits rfl yok_X8_bits ⟨rfl, rfl⟩ ⟨Nat.le_of_ble_eq_true rfl, Nat.le_of_ble_eq_true rfl⟩ (Nat.le_of_ble_eq_true rfl) ⟨Nat.zero_le _, Nat.zero_le _⟩ dX8_binds_36 (fun r1 μ1 hc1 => ?_)
  obtain ⟨rfl, hm1⟩ := hc1
  replace hm1 := hm1.symm
  subst hm1
  exact go_iret C hr dX8_binds_39 (⟨rfl, ⟨(pk_un (by omega)).trans ((pk_un (by omega)).trans hs0), (pk_un (by omega)).trans ((pk_un (by omega)).trans hs1), (updS (i := j) (updS (i := i) hth (congrArg (fun z => z ||| _) (hth i hi))) (congrArg (fun z => z ||| _) (updS (i := i) hth (congrArg (fun z => z ||| _) (hth i hi)) j hj)))⟩, (by repeat' (first | exact same_rf | refine same_ms ?_ (by decide)))⟩)

theorem yok_X8_cuts : yOK yX8_cuts 2 := by unfold yOK; decide +kernel
theorem hi_X8_cuts_RX8 : ∀ w ∈ wsX80, w ∈ wsX8_cuts := by decide +kernel
theorem lk_X8_cuts_7 : Cond.fieldLink RX8 7 "ThornCoresModel" "s" "[I" ∈ wsX8_cuts := by decide +kernel
set_option maxRecDepth 20000 in
set_option maxHeartbeats 4000000 in
theorem c_X8_cuts {l : Launch} {D : va_G} {ad : Nat → Nat} {cI cL : ClassId} (hfl : l.flags = flags0) (hok : adOK ad) (μ : Mem) (i j : Nat) {n : Nat} {pr : Int32} {th : Nat → Int32} (hM : Mo μ n pr th) (hT : TV n pr th) (hi : i < 16) (hj : j < 16) : CtI l D ad cI cL yX8_cuts wsX8_cuts (RM 1 22) [.ref (ad 25), .int (nI i), .int (nI j)] μ (fun (r : Int32) (μ' : Mem) => r = nI (ct (untE th i j i)) ∧ Mo μ' n pr (untE th i j) ∧ same μ μ' [26]) := by
  refine ct_i (cc := cX8_cuts) (maxL := 3) (own := RX8) .int hfl hok (by decide) rfl rfl rfl (Nat.le_of_ble_eq_true rfl) (fun p e s m below meth c C hr => ?_)
  refine go_lv (lv' := [some (.ref (ad 25)), some (.int (nI i)), some (.int (nI j))]) rfl ?_
  obtain ⟨hs0, hs1, hth⟩ := id hM
  have hn := hT.1
  refine go_aload0 C (pc := 0) dX8_cuts_0 ?_
  refine go_get C (pc := 1) 25 (by decide) rfl rfl 0 (by decide) rfl rfl hi_X8_cuts_RX8 lk_X8_cuts_7 dX8_cuts_1 ?_
  refine go_iconst C (pc := 4) (v := 2) (by decide) dX8_cuts_4 ?_
  refine go_iload1 C (pc := 5) dX8_cuts_5 ?_
  refine go_iadd C (pc := 6) dX8_cuts_6 ?_
  refine go_top (y := nI (2 + i)) (by rw [show (2 : Int32) = nI 2 from by decide +kernel, nI_add]) ?_
  refine go_dup2 C (pc := 7) rfl rfl dX8_cuts_7 ?_
  refine go_ialdN C (pc := 8) arr_26 (i := (2 + i)) (by omega) dX8_cuts_8 ?_
  refine go_iconst C (pc := 9) (v := 1) (by decide) dX8_cuts_9 ?_
  refine go_iload2 C (pc := 10) dX8_cuts_10 ?_
  refine go_ishl C (pc := 11) dX8_cuts_11 ?_
  refine go_iconst C (pc := 12) (v := -1) (by decide) dX8_cuts_12 ?_
  refine go_ixor C (pc := 13) dX8_cuts_13 ?_
  refine go_iand C (pc := 14) dX8_cuts_14 ?_
  refine go_iastN C (pc := 15) arr_26 (i := (2 + i)) (by omega) dX8_cuts_15 ?_
  refine go_aload0 C (pc := 16) dX8_cuts_16 ?_
  refine go_get C (pc := 17) 25 (by decide) rfl rfl 0 (by decide) rfl rfl hi_X8_cuts_RX8 lk_X8_cuts_7 dX8_cuts_17 ?_
  refine go_iconst C (pc := 20) (v := 2) (by decide) dX8_cuts_20 ?_
  refine go_iload2 C (pc := 21) dX8_cuts_21 ?_
  refine go_iadd C (pc := 22) dX8_cuts_22 ?_
  refine go_top (y := nI (2 + j)) (by rw [show (2 : Int32) = nI 2 from by decide +kernel, nI_add]) ?_
  refine go_dup2 C (pc := 23) rfl rfl dX8_cuts_23 ?_
  refine go_ialdN C (pc := 24) arr_26 (i := (2 + j)) (by omega) dX8_cuts_24 ?_
  refine go_iconst C (pc := 25) (v := 1) (by decide) dX8_cuts_25 ?_
  refine go_iload1 C (pc := 26) dX8_cuts_26 ?_
  refine go_ishl C (pc := 27) dX8_cuts_27 ?_
  refine go_iconst C (pc := 28) (v := -1) (by decide) dX8_cuts_28 ?_
  refine go_ixor C (pc := 29) dX8_cuts_29 ?_
  refine go_iand C (pc := 30) dX8_cuts_30 ?_
  refine go_iastN C (pc := 31) arr_26 (i := (2 + j)) (by omega) dX8_cuts_31 ?_
  refine go_aload0 C (pc := 32) dX8_cuts_32 ?_
  refine go_get C (pc := 33) 25 (by decide) rfl rfl 0 (by decide) rfl rfl hi_X8_cuts_RX8 lk_X8_cuts_7 dX8_cuts_33 ?_
  refine go_iconst C (pc := 36) (v := 2) (by decide) dX8_cuts_36 ?_
  refine go_iload1 C (pc := 37) dX8_cuts_37 ?_
  refine go_iadd C (pc := 38) dX8_cuts_38 ?_
  refine go_top (y := nI (2 + i)) (by rw [show (2 : Int32) = nI 2 from by decide +kernel, nI_add]) ?_
  refine go_ialdN C (pc := 39) arr_26 (i := (2 + i)) (by omega) dX8_cuts_39 ?_
  refine go_top (y := untE th i j i) ((updS (i := j) (updS (i := i) hth (congrArg (fun z => z &&& _) (hth i hi))) (congrArg (fun z => z &&& _) (updS (i := i) hth (congrArg (fun z => z &&& _) (hth i hi)) j hj))) i hi) ?_
  refine go_ciS1 C (pc := 40) (c_X8_bits C.fl C.ok _ _ ) gX8_cuts_X8_bits rfl yok_X8_bits ⟨rfl, rfl⟩ ⟨Nat.le_of_ble_eq_true rfl, Nat.le_of_ble_eq_true rfl⟩ (Nat.le_of_ble_eq_true rfl) ⟨Nat.zero_le _, Nat.zero_le _⟩ dX8_cuts_40 (fun r1 μ1 hc1 => ?_)
  obtain ⟨rfl, hm1⟩ := hc1
  replace hm1 := hm1.symm
  subst hm1
  exact go_iret C hr dX8_cuts_43 (⟨rfl, ⟨(pk_un (by omega)).trans ((pk_un (by omega)).trans hs0), (pk_un (by omega)).trans ((pk_un (by omega)).trans hs1), (updS (i := j) (updS (i := i) hth (congrArg (fun z => z &&& _) (hth i hi))) (congrArg (fun z => z &&& _) (updS (i := i) hth (congrArg (fun z => z &&& _) (hth i hi)) j hj)))⟩, (by repeat' (first | exact same_rf | refine same_ms ?_ (by decide)))⟩)

theorem yok_X8_bind : yOK yX8_bind 2 := by unfold yOK; decide +kernel
theorem cd2_ex {p0 p1 : Int32} {n : Nat} (hn : n ≤ 16) (h : cd2 (nI n) p0 p1 = 0) : ∃ i j, i < n ∧ j < n ∧ i ≠ j ∧ p0 = nI i ∧ p1 = nI j := by
  unfold cd2 at h
  by_cases a : hasB (nI n) p0 = true
  · rw [if_pos a] at h
    by_cases b : hasB (nI n) p1 = true
    · rw [if_pos b] at h
      by_cases e : p0 = p1
      · rw [if_pos e] at h; exact absurd h (by decide)
      · obtain ⟨i, hi, rfl⟩ := has_ex rfl hn a
        obtain ⟨j, hj, rfl⟩ := has_ex rfl hn b
        exact ⟨i, j, hi, hj, fun q => e (by rw [q]), rfl, rfl⟩
    · rw [if_neg b] at h; exact absurd h (by decide)
  · rw [if_neg a] at h; exact absurd h (by decide)
set_option maxRecDepth 20000 in
set_option maxHeartbeats 4000000 in
theorem c_X8_bind {l : Launch} {D : va_G} {ad : Nat → Nat} {cI cL : ClassId} (hfl : l.flags = flags0) (hok : adOK ad) (μ : Mem) (p0 p1 : Int32) {n : Nat} {pr : Int32} {th : Nat → Int32} (hM : Mo μ n pr th) (hT : TV n pr th) {q : Nat} {h : Nat → Nat → Int32} (hH : MH μ q h) : CtI l D ad cI cL yX8_bind wsX8_bind (RM 3 65) [.ref (ad 25), .int p0, .int p1] μ (fun (r : Int32) (μ' : Mem) => (¬ cd2 (nI n) p0 p1 = 0 ∧ μ' 25 7 = cd2 (nI n) p0 p1 ∧ kp μ μ' [25]) ∨ (∃ i j, i < n ∧ j < n ∧ i ≠ j ∧ bt (th i) j = true ∧ p0 = nI i ∧ p1 = nI j ∧ μ' 25 7 = 3 ∧ kp μ μ' [25]) ∨ ∃ i j, i < n ∧ j < n ∧ i ≠ j ∧ bt (th i) j = false ∧ p0 = nI i ∧ p1 = nI j ∧ r = nI (ct (tieE th i j i)) ∧ Mo μ' n pr (tieE th i j) ∧ MH μ' (remM q) (remH q h (stV (nI n) pr th)) ∧ μ' 25 7 = 0 ∧ (μ' 25 4 = μ 25 4 ∧ μ' 25 6 = μ 25 6) ∧ same μ μ' [25, 26, 27]) := by
  refine ct_i (cc := cX8_bind) (maxL := 3) (own := RX8) .int hfl hok (by decide) rfl rfl rfl (Nat.le_of_ble_eq_true rfl) (fun p e s m below meth c C hr => ?_)
  refine go_lv (lv' := [some (.ref (ad 25)), some (.int p0), some (.int p1)]) rfl ?_
  obtain ⟨hs0, hs1, hth⟩ := id hM
  have hn := hT.1
  refine go_aload0 C (pc := 0) dX8_bind_0 ?_
  refine go_iload1 C (pc := 1) dX8_bind_1 ?_
  refine go_iload2 C (pc := 2) dX8_bind_2 ?_
  refine go_ciV2 C (pc := 3) obj_25 (c_X8_areThere C.fl C.ok _ _ _ hM hT) gX8_bind_X8_areThere rfl rfl yok_X8_areThere ⟨rfl, rfl⟩ ⟨Nat.le_of_ble_eq_true rfl, Nat.le_of_ble_eq_true rfl⟩ (Nat.le_of_ble_eq_true rfl) ⟨Nat.zero_le _, Nat.zero_le _⟩ dX8_bind_3 (fun r1 μ1 hc1 => ?_)
  obtain ⟨rfl, hm1⟩ := hc1
  replace hm1 := hm1.symm
  subst hm1
  refine go_if_ne C (pc := 6) (tgt := 11) dX8_bind_6 (by decide) (fun h6 => ?_) (fun h6 => ?_)
  · have hcd := dz h6
    obtain ⟨i, j, hi, hj, hne, rfl, rfl⟩ := cd2_ex hn hcd
    refine go_aload0 C (pc := 11) dX8_bind_11 ?_
    refine go_iload1 C (pc := 12) dX8_bind_12 ?_
    refine go_iload2 C (pc := 13) dX8_bind_13 ?_
    refine go_ciV2 C (pc := 14) obj_25 (c_X8_areBound C.fl C.ok _ _ _ hM hT (by omega) (by omega)) gX8_bind_X8_areBound rfl rfl yok_X8_areBound ⟨rfl, rfl⟩ ⟨Nat.le_of_ble_eq_true rfl, Nat.le_of_ble_eq_true rfl⟩ (Nat.le_of_ble_eq_true rfl) ⟨Nat.zero_le _, Nat.zero_le _⟩ dX8_bind_14 (fun r3 μ3 hc3 => ?_)
    obtain ⟨rfl, hm3⟩ := hc3
    replace hm3 := hm3.symm
    subst hm3
    refine go_if_eq C (pc := 17) (tgt := 26) dX8_bind_17 (by decide) (fun h17 => ?_) (fun h17 => ?_)
    · refine go_aload0 C (pc := 26) dX8_bind_26 ?_
      refine go_cvV0 C (pc := 27) obj_25 (c_X8_record C.fl C.ok (mset μ 25 (upd (μ 25) 7 (cd2 (nI n) (nI i) (nI j)))) hM hT hH) gX8_bind_X8_record rfl rfl yok_X8_record ⟨rfl, rfl⟩ ⟨Nat.le_of_ble_eq_true rfl, Nat.le_of_ble_eq_true rfl⟩ (Nat.le_of_ble_eq_true rfl) ⟨Nat.zero_le _, Nat.zero_le _⟩ dX8_bind_27 (fun μ5 hc5 => ?_)
      obtain ⟨hH1, hf1, hsm1⟩ := hc5
      have hM2 : Mo μ5 n pr th := Mo.same (μ := mset μ 25 (upd (μ 25) 7 (cd2 (nI n) (nI i) (nI j)))) hM hsm1 (by decide)
      refine go_aload0 C (pc := 30) dX8_bind_30 ?_
      refine go_iload1 C (pc := 31) dX8_bind_31 ?_
      refine go_iload2 C (pc := 32) dX8_bind_32 ?_
      refine go_ciV2 C (pc := 33) obj_25 (c_X8_binds C.fl C.ok _ _ _ hM2 hT (by omega) (by omega)) gX8_bind_X8_binds rfl rfl yok_X8_binds ⟨rfl, rfl⟩ ⟨Nat.le_of_ble_eq_true rfl, Nat.le_of_ble_eq_true rfl⟩ (Nat.le_of_ble_eq_true rfl) ⟨Nat.zero_le _, Nat.zero_le _⟩ dX8_bind_33 (fun r6 μ6 hc6 => ?_)
      obtain ⟨rfl, hMo, hsm2⟩ := hc6
      exact go_iret C hr dX8_bind_36 (Or.inr (Or.inr ⟨i, j, hi, hj, hne, bpos h17, rfl, rfl, rfl, hMo, hH1.same hsm2 (by decide) (by decide), (congrFun (hsm2 25 (by decide)) 7).trans ((hf1 7 (by decide)).trans hcd), ⟨(congrFun (hsm2 25 (by decide)) 4).trans (hf1 4 (by decide)), (congrFun (hsm2 25 (by decide)) 6).trans (hf1 6 (by decide))⟩, same_tr (same_tr (same_ms (f := upd (μ 25) 7 (cd2 (nI n) (nI i) (nI j))) (L := [25]) same_rf (by decide)) hsm1 (L := [25, 27]) (by decide) (by decide)) hsm2 (by decide) (by decide)⟩))
    · refine go_aload0 C (pc := 20) dX8_bind_20 ?_
      refine go_iconst C (pc := 21) (v := 3) (by decide) dX8_bind_21 ?_
      refine go_ciV1 C (pc := 22) obj_25 (c_X8_throwing C.fl C.ok _ _ ) gX8_bind_X8_throwing rfl rfl yok_X8_throwing ⟨rfl, rfl⟩ ⟨Nat.le_of_ble_eq_true rfl, Nat.le_of_ble_eq_true rfl⟩ (Nat.le_of_ble_eq_true rfl) ⟨Nat.zero_le _, Nat.zero_le _⟩ dX8_bind_22 (fun r7 μ7 hc7 => ?_)
      obtain ⟨rfl, hm7⟩ := hc7
      replace hm7 := hm7.symm
      subst hm7
      exact go_iret C hr dX8_bind_25 (Or.inr (Or.inl ⟨i, j, hi, hj, hne, bneg h17, rfl, rfl, rfl, ⟨⟨rfl, rfl, rfl⟩, (by repeat' (first | exact same_rf | refine same_ms ?_ (by decide)))⟩⟩))
  · refine go_iconst C (pc := 9) (v := 0) (by decide) dX8_bind_9 ?_
    exact go_iret C hr dX8_bind_10 (Or.inl ⟨dnz h6, rfl, ⟨⟨rfl, rfl, rfl⟩, (by repeat' (first | exact same_rf | refine same_ms ?_ (by decide)))⟩⟩)

theorem yok_X8_cut : yOK yX8_cut 2 := by unfold yOK; decide +kernel
set_option maxRecDepth 20000 in
set_option maxHeartbeats 4000000 in
theorem c_X8_cut {l : Launch} {D : va_G} {ad : Nat → Nat} {cI cL : ClassId} (hfl : l.flags = flags0) (hok : adOK ad) (μ : Mem) (p0 p1 : Int32) {n : Nat} {pr : Int32} {th : Nat → Int32} (hM : Mo μ n pr th) (hT : TV n pr th) {q : Nat} {h : Nat → Nat → Int32} (hH : MH μ q h) : CtI l D ad cI cL yX8_cut wsX8_cut (RM 3 65) [.ref (ad 25), .int p0, .int p1] μ (fun (r : Int32) (μ' : Mem) => (¬ cd2 (nI n) p0 p1 = 0 ∧ μ' 25 7 = cd2 (nI n) p0 p1 ∧ kp μ μ' [25]) ∨ (∃ i j, i < n ∧ j < n ∧ i ≠ j ∧ bt (th i) j = false ∧ p0 = nI i ∧ p1 = nI j ∧ μ' 25 7 = 3 ∧ kp μ μ' [25]) ∨ ∃ i j, i < n ∧ j < n ∧ i ≠ j ∧ bt (th i) j = true ∧ p0 = nI i ∧ p1 = nI j ∧ r = nI (ct (untE th i j i)) ∧ Mo μ' n pr (untE th i j) ∧ MH μ' (remM q) (remH q h (stV (nI n) pr th)) ∧ μ' 25 7 = 0 ∧ (μ' 25 4 = μ 25 4 ∧ μ' 25 6 = μ 25 6) ∧ same μ μ' [25, 26, 27]) := by
  refine ct_i (cc := cX8_cut) (maxL := 3) (own := RX8) .int hfl hok (by decide) rfl rfl rfl (Nat.le_of_ble_eq_true rfl) (fun p e s m below meth c C hr => ?_)
  refine go_lv (lv' := [some (.ref (ad 25)), some (.int p0), some (.int p1)]) rfl ?_
  obtain ⟨hs0, hs1, hth⟩ := id hM
  have hn := hT.1
  refine go_aload0 C (pc := 0) dX8_cut_0 ?_
  refine go_iload1 C (pc := 1) dX8_cut_1 ?_
  refine go_iload2 C (pc := 2) dX8_cut_2 ?_
  refine go_ciV2 C (pc := 3) obj_25 (c_X8_areThere C.fl C.ok _ _ _ hM hT) gX8_cut_X8_areThere rfl rfl yok_X8_areThere ⟨rfl, rfl⟩ ⟨Nat.le_of_ble_eq_true rfl, Nat.le_of_ble_eq_true rfl⟩ (Nat.le_of_ble_eq_true rfl) ⟨Nat.zero_le _, Nat.zero_le _⟩ dX8_cut_3 (fun r1 μ1 hc1 => ?_)
  obtain ⟨rfl, hm1⟩ := hc1
  replace hm1 := hm1.symm
  subst hm1
  refine go_if_ne C (pc := 6) (tgt := 11) dX8_cut_6 (by decide) (fun h6 => ?_) (fun h6 => ?_)
  · have hcd := dz h6
    obtain ⟨i, j, hi, hj, hne, rfl, rfl⟩ := cd2_ex hn hcd
    refine go_aload0 C (pc := 11) dX8_cut_11 ?_
    refine go_iload1 C (pc := 12) dX8_cut_12 ?_
    refine go_iload2 C (pc := 13) dX8_cut_13 ?_
    refine go_ciV2 C (pc := 14) obj_25 (c_X8_areBound C.fl C.ok _ _ _ hM hT (by omega) (by omega)) gX8_cut_X8_areBound rfl rfl yok_X8_areBound ⟨rfl, rfl⟩ ⟨Nat.le_of_ble_eq_true rfl, Nat.le_of_ble_eq_true rfl⟩ (Nat.le_of_ble_eq_true rfl) ⟨Nat.zero_le _, Nat.zero_le _⟩ dX8_cut_14 (fun r3 μ3 hc3 => ?_)
    obtain ⟨rfl, hm3⟩ := hc3
    replace hm3 := hm3.symm
    subst hm3
    refine go_if_ne C (pc := 17) (tgt := 26) dX8_cut_17 (by decide) (fun h17 => ?_) (fun h17 => ?_)
    · refine go_aload0 C (pc := 26) dX8_cut_26 ?_
      refine go_cvV0 C (pc := 27) obj_25 (c_X8_record C.fl C.ok (mset μ 25 (upd (μ 25) 7 (cd2 (nI n) (nI i) (nI j)))) hM hT hH) gX8_cut_X8_record rfl rfl yok_X8_record ⟨rfl, rfl⟩ ⟨Nat.le_of_ble_eq_true rfl, Nat.le_of_ble_eq_true rfl⟩ (Nat.le_of_ble_eq_true rfl) ⟨Nat.zero_le _, Nat.zero_le _⟩ dX8_cut_27 (fun μ5 hc5 => ?_)
      obtain ⟨hH1, hf1, hsm1⟩ := hc5
      have hM2 : Mo μ5 n pr th := Mo.same (μ := mset μ 25 (upd (μ 25) 7 (cd2 (nI n) (nI i) (nI j)))) hM hsm1 (by decide)
      refine go_aload0 C (pc := 30) dX8_cut_30 ?_
      refine go_iload1 C (pc := 31) dX8_cut_31 ?_
      refine go_iload2 C (pc := 32) dX8_cut_32 ?_
      refine go_ciV2 C (pc := 33) obj_25 (c_X8_cuts C.fl C.ok _ _ _ hM2 hT (by omega) (by omega)) gX8_cut_X8_cuts rfl rfl yok_X8_cuts ⟨rfl, rfl⟩ ⟨Nat.le_of_ble_eq_true rfl, Nat.le_of_ble_eq_true rfl⟩ (Nat.le_of_ble_eq_true rfl) ⟨Nat.zero_le _, Nat.zero_le _⟩ dX8_cut_33 (fun r6 μ6 hc6 => ?_)
      obtain ⟨rfl, hMo, hsm2⟩ := hc6
      exact go_iret C hr dX8_cut_36 (Or.inr (Or.inr ⟨i, j, hi, hj, hne, bneg h17, rfl, rfl, rfl, hMo, hH1.same hsm2 (by decide) (by decide), (congrFun (hsm2 25 (by decide)) 7).trans ((hf1 7 (by decide)).trans hcd), ⟨(congrFun (hsm2 25 (by decide)) 4).trans (hf1 4 (by decide)), (congrFun (hsm2 25 (by decide)) 6).trans (hf1 6 (by decide))⟩, same_tr (same_tr (same_ms (f := upd (μ 25) 7 (cd2 (nI n) (nI i) (nI j))) (L := [25]) same_rf (by decide)) hsm1 (L := [25, 27]) (by decide) (by decide)) hsm2 (by decide) (by decide)⟩))
    · refine go_aload0 C (pc := 20) dX8_cut_20 ?_
      refine go_iconst C (pc := 21) (v := 3) (by decide) dX8_cut_21 ?_
      refine go_ciV1 C (pc := 22) obj_25 (c_X8_throwing C.fl C.ok _ _ ) gX8_cut_X8_throwing rfl rfl yok_X8_throwing ⟨rfl, rfl⟩ ⟨Nat.le_of_ble_eq_true rfl, Nat.le_of_ble_eq_true rfl⟩ (Nat.le_of_ble_eq_true rfl) ⟨Nat.zero_le _, Nat.zero_le _⟩ dX8_cut_22 (fun r7 μ7 hc7 => ?_)
      obtain ⟨rfl, hm7⟩ := hc7
      replace hm7 := hm7.symm
      subst hm7
      exact go_iret C hr dX8_cut_25 (Or.inr (Or.inl ⟨i, j, hi, hj, hne, bpos h17, rfl, rfl, rfl, ⟨⟨rfl, rfl, rfl⟩, (by repeat' (first | exact same_rf | refine same_ms ?_ (by decide)))⟩⟩))
  · refine go_iconst C (pc := 9) (v := 0) (by decide) dX8_cut_9 ?_
    exact go_iret C hr dX8_cut_10 (Or.inl ⟨dnz h6, rfl, ⟨⟨rfl, rfl, rfl⟩, (by repeat' (first | exact same_rf | refine same_ms ?_ (by decide)))⟩⟩)

theorem yok_X8_switchProp : yOK yX8_switchProp 1 := by unfold yOK; decide +kernel
theorem hi_X8_switchProp_RX8 : ∀ w ∈ wsX80, w ∈ wsX8_switchProp := by decide +kernel
theorem lk_X8_switchProp_7 : Cond.fieldLink RX8 7 "ThornCoresModel" "s" "[I" ∈ wsX8_switchProp := by decide +kernel
set_option maxRecDepth 20000 in
set_option maxHeartbeats 4000000 in
theorem c_X8_switchProp {l : Launch} {D : va_G} {ad : Nat → Nat} {cI cL : ClassId} (hfl : l.flags = flags0) (hok : adOK ad) (μ : Mem) (p0 : Int32) {n : Nat} {pr : Int32} {th : Nat → Int32} (hM : Mo μ n pr th) (hT : TV n pr th) {q : Nat} {h : Nat → Nat → Int32} (hH : MH μ q h) : CtI l D ad cI cL yX8_switchProp wsX8_switchProp (RM 3 64) [.ref (ad 25), .int p0] μ (fun (r : Int32) (μ' : Mem) => (hasB (nI n) p0 = false ∧ μ' 25 7 = 1 ∧ kp μ μ' [25]) ∨ ∃ j, j < n ∧ p0 = nI j ∧ r = b2i (bt (pr ^^^ bitI (nI j)) j) ∧ Mo μ' n (pr ^^^ bitI (nI j)) th ∧ MH μ' (remM q) (remH q h (stV (nI n) pr th)) ∧ μ' 25 7 = 0 ∧ (μ' 25 4 = μ 25 4 ∧ μ' 25 6 = μ 25 6) ∧ same μ μ' [25, 26, 27]) := by
  refine ct_i (cc := cX8_switchProp) (maxL := 2) (own := RX8) .boolean hfl hok (by decide) rfl rfl rfl (Nat.le_of_ble_eq_true rfl) (fun p e s m below meth c C hr => ?_)
  refine go_lv (lv' := [some (.ref (ad 25)), some (.int p0)]) rfl ?_
  obtain ⟨hs0, hs1, hth⟩ := id hM
  have hn := hT.1
  refine go_aload0 C (pc := 0) dX8_switchProp_0 ?_
  refine go_iload1 C (pc := 1) dX8_switchProp_1 ?_
  refine go_ciV1 C (pc := 2) obj_25 (c_X8_isThere C.fl C.ok _ _ hM hT) gX8_switchProp_X8_isThere rfl rfl yok_X8_isThere ⟨rfl, rfl⟩ ⟨Nat.le_of_ble_eq_true rfl, Nat.le_of_ble_eq_true rfl⟩ (Nat.le_of_ble_eq_true rfl) ⟨Nat.zero_le _, Nat.zero_le _⟩ dX8_switchProp_2 (fun r1 μ1 hc1 => ?_)
  obtain ⟨rfl, hm1⟩ := hc1
  replace hm1 := hm1.symm
  subst hm1
  refine go_if_ne C (pc := 5) (tgt := 10) dX8_switchProp_5 (by decide) (fun h5 => ?_) (fun h5 => ?_)
  · have hcd := dz h5
    obtain ⟨j, hj, rfl⟩ := cd1_ex hn hcd
    refine go_aload0 C (pc := 10) dX8_switchProp_10 ?_
    refine go_cvV0 C (pc := 11) obj_25 (c_X8_record C.fl C.ok (mset μ 25 (upd (μ 25) 7 (cd1 (nI n) (nI j)))) hM hT hH) gX8_switchProp_X8_record rfl rfl yok_X8_record ⟨rfl, rfl⟩ ⟨Nat.le_of_ble_eq_true rfl, Nat.le_of_ble_eq_true rfl⟩ (Nat.le_of_ble_eq_true rfl) ⟨Nat.zero_le _, Nat.zero_le _⟩ dX8_switchProp_11 (fun μ3 hc3 => ?_)
    obtain ⟨hH1, hf1, hsm1⟩ := hc3
    have e26 : μ3 26 = μ 26 := hsm1 26 (by decide)
    refine go_aload0 C (pc := 14) dX8_switchProp_14 ?_
    refine go_get C (pc := 15) 25 (by decide) rfl rfl 0 (by decide) rfl rfl hi_X8_switchProp_RX8 lk_X8_switchProp_7 dX8_switchProp_15 ?_
    refine go_iconst C (pc := 18) (v := 1) (by decide) dX8_switchProp_18 ?_
    refine go_dup2 C (pc := 19) rfl rfl dX8_switchProp_19 ?_
    refine go_top (y := nI 1) (by first | rfl | decide +kernel) ?_
    refine go_ialdN C (pc := 20) arr_26 (i := 1) (by omega) dX8_switchProp_20 ?_
    refine go_iconst C (pc := 21) (v := 1) (by decide) dX8_switchProp_21 ?_
    refine go_iload1 C (pc := 22) dX8_switchProp_22 ?_
    refine go_ishl C (pc := 23) dX8_switchProp_23 ?_
    refine go_ixor C (pc := 24) dX8_switchProp_24 ?_
    refine go_iastC C (pc := 25) arr_26 (i := 1) (by first | rfl | decide +kernel) (by omega) dX8_switchProp_25 ?_
    refine go_aload0 C (pc := 26) dX8_switchProp_26 ?_
    refine go_get C (pc := 27) 25 (by decide) rfl rfl 0 (by decide) rfl rfl hi_X8_switchProp_RX8 lk_X8_switchProp_7 dX8_switchProp_27 ?_
    refine go_iconst C (pc := 30) (v := 1) (by decide) dX8_switchProp_30 ?_
    refine go_top (y := nI 1) (by first | rfl | decide +kernel) ?_
    refine go_ialdN C (pc := 31) arr_26 (i := 1) (by omega) dX8_switchProp_31 ?_
    refine go_top (y := pr ^^^ bitI (nI j)) (congrArg (· ^^^ bitI (nI j)) ((congrFun e26 1).trans hs1)) ?_
    refine go_iload1 C (pc := 32) dX8_switchProp_32 ?_
    refine go_ciS2 C (pc := 33) (c_X8_has C.fl C.ok _ _ _ (by omega)) gX8_switchProp_X8_has rfl yok_X8_has ⟨rfl, rfl⟩ ⟨Nat.le_of_ble_eq_true rfl, Nat.le_of_ble_eq_true rfl⟩ (Nat.le_of_ble_eq_true rfl) ⟨Nat.zero_le _, Nat.zero_le _⟩ dX8_switchProp_33 (fun r4 μ4 hc4 => ?_)
    obtain ⟨rfl, hm4⟩ := hc4
    replace hm4 := hm4.symm
    subst hm4
    exact go_zret C hr dX8_switchProp_36 (by first | decide | exact b2i_01 _) (Or.inr ⟨j, hj, rfl, rfl, ⟨(congrFun e26 0).trans hs0, congrArg (· ^^^ bitI (nI j)) ((congrFun e26 1).trans hs1), fun i hi => (pk_un (by omega)).trans ((congrFun e26 (2 + i)).trans (hth i hi))⟩, hH1, (hf1 7 (by decide)).trans hcd, ⟨hf1 4 (by decide), hf1 6 (by decide)⟩, same_tr (same_tr (same_ms (f := upd (μ 25) 7 (cd1 (nI n) (nI j))) (L := [25]) same_rf (by decide)) hsm1 (L := [25, 27]) (by decide) (by decide)) (same_ms (L := [26]) same_rf (by decide)) (by decide) (by decide)⟩)
  · refine go_iconst C (pc := 8) (v := 0) (by decide) dX8_switchProp_8 ?_
    exact go_zret C hr dX8_switchProp_9 (by first | decide | exact b2i_01 _) (Or.inl ⟨(cd1_no (dnz h5)).1, (cd1_no (dnz h5)).2, ⟨⟨rfl, rfl, rfl⟩, (by repeat' (first | exact same_rf | refine same_ms ?_ (by decide)))⟩⟩)

theorem yok_X8_undo : yOK yX8_undo 0 := by unfold yOK; decide +kernel
theorem hi_X8_undo_RX8 : ∀ w ∈ wsX80, w ∈ wsX8_undo := by decide +kernel
theorem lk_X8_undo_43 : Cond.fieldLink RX8 43 "ThornCoresModel" "known" "I" ∈ wsX8_undo := by decide +kernel
theorem lk_X8_undo_7 : Cond.fieldLink RX8 7 "ThornCoresModel" "s" "[I" ∈ wsX8_undo := by decide +kernel
theorem lk_X8_undo_13 : Cond.fieldLink RX8 13 "ThornCoresModel" "before" "[I" ∈ wsX8_undo := by decide +kernel
theorem lk_X8_undo_31 : Cond.fieldLink RX8 31 "ThornCoresModel" "thrown" "I" ∈ wsX8_undo := by decide +kernel
set_option maxRecDepth 20000 in
set_option maxHeartbeats 4000000 in
theorem c_X8_undo {l : Launch} {D : va_G} {ad : Nat → Nat} {cI cL : ClassId} (hfl : l.flags = flags0) (hok : adOK ad) (μ : Mem) {q : Nat} {h : Nat → Nat → Int32} (hH : MH μ q h) : CtI l D ad cI cL yX8_undo wsX8_undo (RM 1 21) [.ref (ad 25)] μ (fun (r : Int32) (μ' : Mem) => (q = 0 ∧ μ' 25 7 = 1 ∧ kp μ μ' [25]) ∨ ∃ y, q = y + 1 ∧ r = nI y ∧ μ' 25 2 = nI y ∧ (∀ k, k < 18 → μ' 26 k = h y k) ∧ μ' 25 7 = 0 ∧ (μ' 25 4 = μ 25 4 ∧ μ' 25 6 = μ 25 6) ∧ same μ μ' [25, 26]) := by
  refine ct_i (cc := cX8_undo) (maxL := 2) (own := RX8) .int hfl hok (by decide) rfl rfl rfl (Nat.le_of_ble_eq_true rfl) (fun p e s m below meth c C hr => ?_)
  refine go_lv (lv' := [some (.ref (ad 25)), none]) rfl ?_
  have h6 := hH.2.1
  refine go_aload0 C (pc := 0) dX8_undo_0 ?_
  refine go_iconst C (pc := 1) (v := 0) (by decide) dX8_undo_1 ?_
  refine go_put C (pc := 2) 25 (by decide) rfl rfl 7 (by decide) rfl hi_X8_undo_RX8 lk_X8_undo_31 tyX8_ok nmX8 rfl rfl rfl (Nat.le_of_ble_eq_true rfl) rfl dX8_undo_2 ?_
  refine go_aload0 C (pc := 5) dX8_undo_5 ?_
  refine go_get C (pc := 6) 25 (by decide) rfl rfl 2 (by decide) rfl rfl hi_X8_undo_RX8 lk_X8_undo_43 dX8_undo_6 ?_
  refine go_top (y := nI (q)) (hH.1) ?_
  refine go_if_ne C (pc := 9) (tgt := 18) dX8_undo_9 (by decide) (fun h9 => ?_) (fun h9 => ?_)
  · obtain ⟨y, rfl⟩ : ∃ y, q = y + 1 := ⟨q - 1, by rcases Nat.eq_zero_or_pos q with z | z; exact absurd (by rw [z]; rfl) h9; omega⟩
    have key : ∀ i, i ≤ 18 → Go p l e (headSpec wsX8_undo (RM 1 21)).room s m ([.ref (ad 25)] : List Value).toArray below meth c 0 0 (MQ below (va_Qi (fun (r : Int32) (μ' : Mem) => (y + 1 = 0 ∧ μ' 25 7 = 1 ∧ kp μ μ' [25]) ∨ ∃ y1, y + 1 = y1 + 1 ∧ r = nI y1 ∧ μ' 25 2 = nI y1 ∧ (∀ k, k < 18 → μ' 26 k = h y1 k) ∧ μ' 25 7 = 0 ∧ (μ' 25 4 = μ 25 4 ∧ μ' 25 6 = μ 25 6) ∧ same μ μ' [25, 26]) (fun μ' t => PreW D ad cI cL μ' t) (AW ad)) ([.ref (ad 25)] : List Value).toArray s 0 0 (AW ad)) (AW ad) D ad cI cL 2 30 [some (.ref (ad 25)), some (.int (nI i))] [] (mset (mset (mset μ 25 (upd (μ 25) 7 0)) 25 (upd (upd (μ 25) 7 0) 2 (nI y))) 26 (cpN (h y) (μ 26) i)) := by
      refine dn_ind ?_ ?_
      · refine go_iload1 C (pc := 30) dX8_undo_30 ?_
        refine go_bipush C (pc := 31) (v := 18) (by decide) dX8_undo_31 ?_
        refine go_icmp_ge C (pc := 33) (tgt := 62) dX8_undo_33 (by decide) (fun h33 => ?_) (fun h33 => ?_)
        · refine go_aload0 C (pc := 62) dX8_undo_62 ?_
          refine go_get C (pc := 63) 25 (by decide) rfl rfl 2 (by decide) rfl rfl hi_X8_undo_RX8 lk_X8_undo_43 dX8_undo_63 ?_
          exact go_iret C hr dX8_undo_66 (Or.inr ⟨y, rfl, rfl, rfl, fun k hk => cpN_in hk, rfl, ⟨rfl, rfl⟩, (by repeat' (first | exact same_rf | refine same_ms ?_ (by decide)))⟩)
        · exact absurd (by rw [show (18 : Int32) = nI 18 from by decide +kernel]; exact nI_le (Nat.le_refl _) (by decide)) h33
      · intro i hi ih
        refine go_iload1 C (pc := 30) dX8_undo_30 ?_
        refine go_bipush C (pc := 31) (v := 18) (by decide) dX8_undo_31 ?_
        refine go_icmp_ge C (pc := 33) (tgt := 62) dX8_undo_33 (by decide) (fun h33 => ?_) (fun h33 => ?_)
        · exact absurd h33 (by rw [show (18 : Int32) = nI 18 from by decide +kernel]; exact nI_ge hi (by decide))
        · refine go_aload0 C (pc := 36) dX8_undo_36 ?_
          refine go_get C (pc := 37) 25 (by decide) rfl rfl 0 (by decide) rfl rfl hi_X8_undo_RX8 lk_X8_undo_7 dX8_undo_37 ?_
          refine go_iload1 C (pc := 40) dX8_undo_40 ?_
          refine go_aload0 C (pc := 41) dX8_undo_41 ?_
          refine go_get C (pc := 42) 25 (by decide) rfl rfl 1 (by decide) rfl rfl hi_X8_undo_RX8 lk_X8_undo_13 dX8_undo_42 ?_
          refine go_bipush C (pc := 45) (v := 18) (by decide) dX8_undo_45 ?_
          refine go_aload0 C (pc := 47) dX8_undo_47 ?_
          refine go_get C (pc := 48) 25 (by decide) rfl rfl 2 (by decide) rfl rfl hi_X8_undo_RX8 lk_X8_undo_43 dX8_undo_48 ?_
          refine go_top (y := nI (y)) (rfl) ?_
          refine go_imul C (pc := 51) dX8_undo_51 ?_
          refine go_top (y := nI (18 * y)) (by rw [show (18 : Int32) = nI 18 from by decide +kernel, pk_mul]) ?_
          refine go_iload1 C (pc := 52) dX8_undo_52 ?_
          refine go_iadd C (pc := 53) dX8_undo_53 ?_
          refine go_top (y := nI ((18 * y) + i)) (by rw [nI_add]) ?_
          refine go_ialdN C (pc := 54) arr_27 (i := ((18 * y) + i)) (by omega) dX8_undo_54 ?_
          refine go_top (y := h y i) (hH.2.2 y (Nat.lt_succ_self y) i hi) ?_
          refine go_iastN C (pc := 55) arr_26 (i := i) (by omega) dX8_undo_55 ?_
          refine go_iinc1 C (pc := 56) (v := 1) dX8_undo_56 (by decide) ?_
          refine go_goto C (pc := 59) (tgt := 30) dX8_undo_59 (by decide) ?_
          exact go_lv (by rw [nI_1]) (go_mem (show _ = mset (mset (mset μ 25 (upd (μ 25) 7 0)) 25 (upd (upd (μ 25) 7 0) 2 (nI y))) 26 (cpN (h y) (μ 26) (i + 1)) from by rw [← cpN_s]; exact mset_mset _ 26 _ _) ih)
    refine go_aload0 C (pc := 18) dX8_undo_18 ?_
    refine go_dup C (pc := 19) rfl dX8_undo_19 ?_
    refine go_get C (pc := 20) 25 (by decide) rfl rfl 2 (by decide) rfl rfl hi_X8_undo_RX8 lk_X8_undo_43 dX8_undo_20 ?_
    refine go_top (y := nI ((y + 1))) (hH.1) ?_
    refine go_iconst C (pc := 23) (v := 1) (by decide) dX8_undo_23 ?_
    refine go_isub C (pc := 24) dX8_undo_24 ?_
    refine go_top (y := nI y) (n1_s y) ?_
    refine go_put C (pc := 25) 25 (by decide) rfl rfl 2 (by decide) rfl hi_X8_undo_RX8 lk_X8_undo_43 tyX8_ok nmX8 rfl rfl rfl (Nat.le_of_ble_eq_true rfl) rfl dX8_undo_25 ?_
    refine go_iconst C (pc := 28) (v := 0) (by decide) dX8_undo_28 ?_
    refine go_istore1 C (pc := 29) dX8_undo_29 ?_
    exact go_lv (by rw [nI_0]) (go_mem (by rw [cpN_0]; exact (mset_id (mset (mset μ 25 (upd (μ 25) 7 0)) 25 (upd (upd (μ 25) 7 0) 2 (nI y))) 26).symm) (key 0 (Nat.zero_le _)))
  · refine go_aload0 C (pc := 12) dX8_undo_12 ?_
    refine go_iconst C (pc := 13) (v := 1) (by decide) dX8_undo_13 ?_
    refine go_ciV1 C (pc := 14) obj_25 (c_X8_throwing C.fl C.ok _ _ ) gX8_undo_X8_throwing rfl rfl yok_X8_throwing ⟨rfl, rfl⟩ ⟨Nat.le_of_ble_eq_true rfl, Nat.le_of_ble_eq_true rfl⟩ (Nat.le_of_ble_eq_true rfl) ⟨Nat.zero_le _, Nat.zero_le _⟩ dX8_undo_14 (fun r4 μ4 hc4 => ?_)
    obtain ⟨rfl, hm4⟩ := hc4
    replace hm4 := hm4.symm
    subst hm4
    exact go_iret C hr dX8_undo_17 (Or.inl ⟨nI_inj3 (by omega) (by decide) (h9.trans (show (0 : Int32) = nI 0 from rfl)), rfl, ⟨⟨rfl, rfl, rfl⟩, (by repeat' (first | exact same_rf | refine same_ms ?_ (by decide)))⟩⟩)

theorem yok_X8_restoreSnapshot : yOK yX8_restoreSnapshot 0 := by unfold yOK; decide +kernel
theorem hi_X8_restoreSnapshot_RX8 : ∀ w ∈ wsX80, w ∈ wsX8_restoreSnapshot := by decide +kernel
theorem lk_X8_restoreSnapshot_7 : Cond.fieldLink RX8 7 "ThornCoresModel" "s" "[I" ∈ wsX8_restoreSnapshot := by decide +kernel
theorem lk_X8_restoreSnapshot_16 : Cond.fieldLink RX8 16 "ThornCoresModel" "kept" "[I" ∈ wsX8_restoreSnapshot := by decide +kernel
theorem lk_X8_restoreSnapshot_31 : Cond.fieldLink RX8 31 "ThornCoresModel" "thrown" "I" ∈ wsX8_restoreSnapshot := by decide +kernel
theorem lk_X8_restoreSnapshot_124 : Cond.fieldLink RX8 124 "ThornCoresModel" "isKept" "Z" ∈ wsX8_restoreSnapshot := by decide +kernel
set_option maxRecDepth 20000 in
set_option maxHeartbeats 4000000 in
theorem c_X8_restoreSnapshot {l : Launch} {D : va_G} {ad : Nat → Nat} {cI cL : ClassId} (hfl : l.flags = flags0) (hok : adOK ad) (μ : Mem) (bs : Bool) (hk4 : μ 25 4 = b2i bs) {n : Nat} {pr : Int32} {th : Nat → Int32} (hM : Mo μ n pr th) (hT : TV n pr th) {q : Nat} {h : Nat → Nat → Int32} (hH : MH μ q h) : CtI l D ad cI cL yX8_restoreSnapshot wsX8_restoreSnapshot (RM 1 21) [.ref (ad 25)] μ (fun (r : Int32) (μ' : Mem) => (bs = false ∧ μ' 25 7 = 1 ∧ kp μ μ' [25]) ∨ (bs = true ∧ r = μ 28 0 ∧ (∀ k, k < 18 → μ' 26 k = μ 28 k) ∧ MH μ' (remM q) (remH q h (stV (nI n) pr th)) ∧ μ' 25 7 = 0 ∧ (μ' 25 4 = μ 25 4 ∧ μ' 25 6 = μ 25 6) ∧ same μ μ' [25, 26, 27])) := by
  refine ct_i (cc := cX8_restoreSnapshot) (maxL := 2) (own := RX8) .int hfl hok (by decide) rfl rfl rfl (Nat.le_of_ble_eq_true rfl) (fun p e s m below meth c C hr => ?_)
  refine go_lv (lv' := [some (.ref (ad 25)), none]) rfl ?_
  obtain ⟨hs0, hs1, hth⟩ := id hM
  have hn := hT.1
  have key : ∀ M, bs = true → recP (mset μ 25 (upd (μ 25) 7 0)) q h (stV (nI n) pr th) M → ∀ i, i ≤ 18 → Go p l e (headSpec wsX8_restoreSnapshot (RM 1 21)).room s m ([.ref (ad 25)] : List Value).toArray below meth c 0 0 (MQ below (va_Qi (fun (r : Int32) (μ' : Mem) => (bs = false ∧ μ' 25 7 = 1 ∧ kp μ μ' [25]) ∨ (bs = true ∧ r = μ 28 0 ∧ (∀ k, k < 18 → μ' 26 k = μ 28 k) ∧ MH μ' (remM q) (remH q h (stV (nI n) pr th)) ∧ μ' 25 7 = 0 ∧ (μ' 25 4 = μ 25 4 ∧ μ' 25 6 = μ 25 6) ∧ same μ μ' [25, 26, 27])) (fun μ' t => PreW D ad cI cL μ' t) (AW ad)) ([.ref (ad 25)] : List Value).toArray s 0 0 (AW ad)) (AW ad) D ad cI cL 2 24 [some (.ref (ad 25)), some (.int (nI i))] [] (mset M 26 (cpN (μ 28) (M 26) i)) := by
    intro M hbs hR
    obtain ⟨hH1, hf1, hsm1⟩ := hR
    have e28 : M 28 = μ 28 := hsm1 28 (by decide)
    refine dn_ind ?_ ?_
    · refine go_iload1 C (pc := 24) dX8_restoreSnapshot_24 ?_
      refine go_bipush C (pc := 25) (v := 18) (by decide) dX8_restoreSnapshot_25 ?_
      refine go_icmp_ge C (pc := 27) (tgt := 48) dX8_restoreSnapshot_27 (by decide) (fun h27 => ?_) (fun h27 => ?_)
      · refine go_aload0 C (pc := 48) dX8_restoreSnapshot_48 ?_
        refine go_get C (pc := 49) 25 (by decide) rfl rfl 0 (by decide) rfl rfl hi_X8_restoreSnapshot_RX8 lk_X8_restoreSnapshot_7 dX8_restoreSnapshot_49 ?_
        refine go_iconst C (pc := 52) (v := 0) (by decide) dX8_restoreSnapshot_52 ?_
        refine go_top (y := nI 0) (by first | rfl | decide +kernel) ?_
        refine go_ialdN C (pc := 53) arr_26 (i := 0) (by omega) dX8_restoreSnapshot_53 ?_
        exact go_iret C hr dX8_restoreSnapshot_54 (Or.inr ⟨hbs, rfl, fun k hk => cpN_in hk, hH1, hf1 7 (by decide), ⟨hf1 4 (by decide), hf1 6 (by decide)⟩, same_tr (same_tr (same_ms (f := upd (μ 25) 7 0) (L := [25]) same_rf (by decide)) hsm1 (L := [25, 27]) (by decide) (by decide)) (same_ms (L := [26]) same_rf (by decide)) (by decide) (by decide)⟩)
      · exact absurd (by rw [show (18 : Int32) = nI 18 from by decide +kernel]; exact nI_le (Nat.le_refl _) (by decide)) h27
    · intro i hi ih
      refine go_iload1 C (pc := 24) dX8_restoreSnapshot_24 ?_
      refine go_bipush C (pc := 25) (v := 18) (by decide) dX8_restoreSnapshot_25 ?_
      refine go_icmp_ge C (pc := 27) (tgt := 48) dX8_restoreSnapshot_27 (by decide) (fun h27 => ?_) (fun h27 => ?_)
      · exact absurd h27 (by rw [show (18 : Int32) = nI 18 from by decide +kernel]; exact nI_ge hi (by decide))
      · refine go_aload0 C (pc := 30) dX8_restoreSnapshot_30 ?_
        refine go_get C (pc := 31) 25 (by decide) rfl rfl 0 (by decide) rfl rfl hi_X8_restoreSnapshot_RX8 lk_X8_restoreSnapshot_7 dX8_restoreSnapshot_31 ?_
        refine go_iload1 C (pc := 34) dX8_restoreSnapshot_34 ?_
        refine go_aload0 C (pc := 35) dX8_restoreSnapshot_35 ?_
        refine go_get C (pc := 36) 25 (by decide) rfl rfl 3 (by decide) rfl rfl hi_X8_restoreSnapshot_RX8 lk_X8_restoreSnapshot_16 dX8_restoreSnapshot_36 ?_
        refine go_iload1 C (pc := 39) dX8_restoreSnapshot_39 ?_
        refine go_ialdN C (pc := 40) arr_28 (i := i) (by omega) dX8_restoreSnapshot_40 ?_
        refine go_top (y := μ 28 i) (congrFun e28 i) ?_
        refine go_iastN C (pc := 41) arr_26 (i := i) (by omega) dX8_restoreSnapshot_41 ?_
        refine go_iinc1 C (pc := 42) (v := 1) dX8_restoreSnapshot_42 (by decide) ?_
        refine go_goto C (pc := 45) (tgt := 24) dX8_restoreSnapshot_45 (by decide) ?_
        exact go_lv (by rw [nI_1]) (go_mem (show _ = mset M 26 (cpN (μ 28) (M 26) (i + 1)) from by rw [← cpN_s]; exact mset_mset _ 26 _ _) ih)
  refine go_aload0 C (pc := 0) dX8_restoreSnapshot_0 ?_
  refine go_iconst C (pc := 1) (v := 0) (by decide) dX8_restoreSnapshot_1 ?_
  refine go_put C (pc := 2) 25 (by decide) rfl rfl 7 (by decide) rfl hi_X8_restoreSnapshot_RX8 lk_X8_restoreSnapshot_31 tyX8_ok nmX8 rfl rfl rfl (Nat.le_of_ble_eq_true rfl) rfl dX8_restoreSnapshot_2 ?_
  refine go_aload0 C (pc := 5) dX8_restoreSnapshot_5 ?_
  refine go_get C (pc := 6) 25 (by decide) rfl rfl 4 (by decide) rfl rfl hi_X8_restoreSnapshot_RX8 lk_X8_restoreSnapshot_124 dX8_restoreSnapshot_6 ?_
  refine go_top (y := b2i bs) hk4 ?_
  refine go_if_ne C (pc := 9) (tgt := 18) dX8_restoreSnapshot_9 (by decide) (fun h9 => ?_) (fun h9 => ?_)
  · refine go_aload0 C (pc := 18) dX8_restoreSnapshot_18 ?_
    refine go_cvV0 C (pc := 19) obj_25 (c_X8_record C.fl C.ok (mset μ 25 (upd (μ 25) 7 0)) hM hT hH) gX8_restoreSnapshot_X8_record rfl rfl yok_X8_record ⟨rfl, rfl⟩ ⟨Nat.le_of_ble_eq_true rfl, Nat.le_of_ble_eq_true rfl⟩ (Nat.le_of_ble_eq_true rfl) ⟨Nat.zero_le _, Nat.zero_le _⟩ dX8_restoreSnapshot_19 (fun μ4 hc4 => ?_)
    have hR := hc4
    refine go_iconst C (pc := 22) (v := 0) (by decide) dX8_restoreSnapshot_22 ?_
    refine go_istore1 C (pc := 23) dX8_restoreSnapshot_23 ?_
    exact go_lv (by rw [nI_0]) (go_mem (by rw [cpN_0]; exact (mset_id _ 26).symm) (key _ (bneg h9) hR 0 (Nat.zero_le _)))
  · refine go_aload0 C (pc := 12) dX8_restoreSnapshot_12 ?_
    refine go_iconst C (pc := 13) (v := 1) (by decide) dX8_restoreSnapshot_13 ?_
    refine go_ciV1 C (pc := 14) obj_25 (c_X8_throwing C.fl C.ok _ _ ) gX8_restoreSnapshot_X8_throwing rfl rfl yok_X8_throwing ⟨rfl, rfl⟩ ⟨Nat.le_of_ble_eq_true rfl, Nat.le_of_ble_eq_true rfl⟩ (Nat.le_of_ble_eq_true rfl) ⟨Nat.zero_le _, Nat.zero_le _⟩ dX8_restoreSnapshot_14 (fun r5 μ5 hc5 => ?_)
    obtain ⟨rfl, hm5⟩ := hc5
    replace hm5 := hm5.symm
    subst hm5
    exact go_iret C hr dX8_restoreSnapshot_17 (Or.inl ⟨bpos h9, rfl, ⟨⟨rfl, rfl, rfl⟩, (by repeat' (first | exact same_rf | refine same_ms ?_ (by decide)))⟩⟩)

