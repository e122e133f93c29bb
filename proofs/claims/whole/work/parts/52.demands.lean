/-! ===== ThornCores: what the calls demand ===== -/
theorem has_ex {c p0 : Int32} {n : Nat} (hc : c = nI n) (hn : n ≤ 16) (h : hasB c p0 = true) : ∃ j, j < n ∧ p0 = nI j := by
  unfold hasB at h
  simp only [Bool.and_eq_true, Bool.not_eq_true', decide_eq_false_iff_not, decide_eq_true_eq] at h
  rcases pk_ix p0 (show n < 2 ^ 31 by omega) with q | q | ⟨j, hj, e⟩
  · exact absurd q h.1
  · rw [hc] at h; exact absurd h.2 (Int32.not_lt.mpr q)
  · exact ⟨j, hj, e⟩
/-- what a call that demands a plant throws -/
def dem1 (c p0 : Int32) : Option String := if hasB c p0 = true then none else some eIOB
def dem2 (c p0 p1 : Int32) : Option String := if hasB c p0 = true then (if hasB c p1 = true then (if p0 = p1 then some eIAE else none) else some eIOB) else some eIOB
def demT (c : Int32) (th : Nat → Int32) (p0 p1 : Int32) : Option String := if hasB c p0 = true then (if hasB c p1 = true then (if bndB c th p0 p1 = true then none else some eNSE) else some eIOB) else some eIOB
def demK (k : Int32) : Option String := if k < 0 then some eIAE else if 15 < k then some eIAE else none
theorem demK_ex {k : Int32} (h : demK k = none) : ∃ j, j ≤ 15 ∧ k = nI j := by
  unfold demK at h
  by_cases h0 : k < 0
  · rw [if_pos h0] at h; cases h
  · rw [if_neg h0] at h
    by_cases h1 : 15 < k
    · rw [if_pos h1] at h; cases h
    · obtain ⟨j, hj, e⟩ := nI_of2 (x := k) (M := 15) (n := 15) (by decide) h0 (Int32.not_lt.mp h1)
      exact ⟨j, hj, e⟩
theorem yok_X7_demandPlant : yOK yX7_demandPlant 1 := by unfold yOK; decide +kernel
theorem hi_X7_demandPlant_RX7 : ∀ w ∈ wsX70, w ∈ wsX7_demandPlant := by decide +kernel
theorem lk_X7_demandPlant_10 : Cond.fieldLink RX7 10 "ThornCores" "thicket" "LThornCores$Thicket;" ∈ wsX7_demandPlant := by decide +kernel
theorem th_X7_demandPlant_248 : ∀ w ∈ (vx_atS RX7 248 eIOB exN).filter goodWord, w ∈ wsX7_demandPlant := by decide +kernel
theorem lw_X7_demandPlant_k244 : Cond.classLink RX7 244 eIOB ∈ wsX7_demandPlant := by decide +kernel
theorem lw_X7_demandPlant_n244 : Cond.initialized eIOB ∈ wsX7_demandPlant := by decide +kernel
set_option maxRecDepth 20000 in
set_option maxHeartbeats 4000000 in
theorem c_X7_demandPlant {l : Launch} {D : va_G} {ad : Nat → Nat} {cI cL : ClassId} (hfl : l.flags = flags0) (hok : adOK ad) (μ : Mem) (p0 : Int32) : CtVX l D ad cI cL yX7_demandPlant wsX7_demandPlant (RMX 6 90 1 6) [.ref (ad 0), .int p0] μ (fun (μ' : Mem) => hasB (μ 1 0) p0 = true ∧ μ' = μ) (fun E : String => dem1 (μ 1 0) p0 = some E) 1 6 := by
  refine ct_vx (cc := cX7_demandPlant) (maxL := 2) (own := RX7)  hfl hok (by decide) rfl rfl rfl (Nat.le_of_ble_eq_true rfl) (fun p e s m below meth c C hr hE ht => ?_)
  refine go_lv (lv' := [some (.ref (ad 0)), some (.int p0)]) rfl ?_
  refine go_aload0 C (pc := 0) dX7_demandPlant_0 ?_
  refine go_get C (pc := 1) 0 (by decide) rfl rfl 0 (by decide) rfl rfl hi_X7_demandPlant_RX7 lk_X7_demandPlant_10 dX7_demandPlant_1 ?_
  refine go_iload1 C (pc := 4) dX7_demandPlant_4 ?_
  refine go_ciV1 C (pc := 5) obj_1 (c_X5_has C.fl C.ok _ _ ) gX7_demandPlant_X5_has rfl rfl yok_X5_has ⟨rfl, rfl⟩ ⟨Nat.le_of_ble_eq_true rfl, Nat.le_of_ble_eq_true rfl⟩ (Nat.le_of_ble_eq_true rfl) ⟨Nat.le_of_ble_eq_true rfl, Nat.le_of_ble_eq_true rfl⟩ dX7_demandPlant_5 (fun r1 μ1 hc1 => ?_)
  obtain ⟨rfl, hm1⟩ := hc1
  replace hm1 := hm1.symm
  subst hm1
  refine go_if_ne C (pc := 8) (tgt := 21) dX7_demandPlant_8 (by decide) (fun h8 => ?_) (fun h8 => ?_)
  · exact go_xvret C hr hE ⟨Nat.le_of_ble_eq_true rfl, Nat.le_of_ble_eq_true rfl⟩ dX7_demandPlant_21 (⟨bneg h8, rfl⟩)
  · exact go_throw C hE ht (pc := 11) (cls := eIOB) (text := "there is no such plant") (ik := 244) (is := 246) (ic := 248) (by decide) lw_X7_demandPlant_k244 lw_X7_demandPlant_n244 th_X7_demandPlant_248 ng_248 gd_248 (by decide) dX7_demandPlant_11 dX7_demandPlant_14 dX7_demandPlant_15 dX7_demandPlant_17 dX7_demandPlant_20 ⟨Nat.le_of_ble_eq_true rfl, Nat.le_of_ble_eq_true rfl⟩ (Nat.le_of_ble_eq_true rfl) ⟨Nat.le_of_ble_eq_true rfl, Nat.le_of_ble_eq_true rfl⟩ ⟨Nat.le_of_ble_eq_true rfl, Nat.le_of_ble_eq_true rfl⟩ (by rw [dem1, if_neg (by rw [bpos h8]; decide)])

theorem yok_X7_demandTwoPlants : yOK yX7_demandTwoPlants 2 := by unfold yOK; decide +kernel
theorem th_X7_demandTwoPlants_129 : ∀ w ∈ (vx_atS RX7 129 eIAE exN).filter goodWord, w ∈ wsX7_demandTwoPlants := by decide +kernel
theorem lw_X7_demandTwoPlants_k125 : Cond.classLink RX7 125 eIAE ∈ wsX7_demandTwoPlants := by decide +kernel
theorem lw_X7_demandTwoPlants_n125 : Cond.initialized eIAE ∈ wsX7_demandTwoPlants := by decide +kernel
set_option maxRecDepth 20000 in
set_option maxHeartbeats 4000000 in
theorem c_X7_demandTwoPlants {l : Launch} {D : va_G} {ad : Nat → Nat} {cI cL : ClassId} (hfl : l.flags = flags0) (hok : adOK ad) (μ : Mem) (p0 p1 : Int32) : CtVX l D ad cI cL yX7_demandTwoPlants wsX7_demandTwoPlants (RMX 7 111 3 18) [.ref (ad 0), .int p0, .int p1] μ (fun (μ' : Mem) => (hasB (μ 1 0) p0 = true ∧ hasB (μ 1 0) p1 = true ∧ p0 ≠ p1) ∧ μ' = μ) (fun E : String => dem2 (μ 1 0) p0 p1 = some E) 3 18 := by
  refine ct_vx (cc := cX7_demandTwoPlants) (maxL := 3) (own := RX7)  hfl hok (by decide) rfl rfl rfl (Nat.le_of_ble_eq_true rfl) (fun p e s m below meth c C hr hE ht => ?_)
  refine go_lv (lv' := [some (.ref (ad 0)), some (.int p0), some (.int p1)]) rfl ?_
  refine go_aload0 C (pc := 0) dX7_demandTwoPlants_0 ?_
  refine go_iload1 C (pc := 1) dX7_demandTwoPlants_1 ?_
  refine go_xvV1 C hE ht (pc := 2) obj_0 (c_X7_demandPlant C.fl C.ok _ _ ) gX7_demandTwoPlants_X7_demandPlant rfl rfl yok_X7_demandPlant ⟨rfl, rfl⟩ ⟨Nat.le_of_ble_eq_true rfl, Nat.le_of_ble_eq_true rfl⟩ (Nat.le_of_ble_eq_true rfl) ⟨Nat.le_of_ble_eq_true rfl, Nat.le_of_ble_eq_true rfl⟩ ⟨Nat.le_of_ble_eq_true rfl, Nat.le_of_ble_eq_true rfl⟩ dX7_demandTwoPlants_2 (fun E q => by rw [dem2]; by_cases z : hasB (μ 1 0) p0 = true; rw [dem1, if_pos z] at q; cases q; rw [dem1, if_neg z] at q; rw [if_neg z]; exact q) (fun μ1 hc1 => ?_)
  obtain ⟨ha, hm1⟩ := hc1
  replace hm1 := hm1.symm
  subst hm1
  refine go_aload0 C (pc := 5) dX7_demandTwoPlants_5 ?_
  refine go_iload2 C (pc := 6) dX7_demandTwoPlants_6 ?_
  refine go_xvV1 C hE ht (pc := 7) obj_0 (c_X7_demandPlant C.fl C.ok _ _ ) gX7_demandTwoPlants_X7_demandPlant rfl rfl yok_X7_demandPlant ⟨rfl, rfl⟩ ⟨Nat.le_of_ble_eq_true rfl, Nat.le_of_ble_eq_true rfl⟩ (Nat.le_of_ble_eq_true rfl) ⟨Nat.le_of_ble_eq_true rfl, Nat.le_of_ble_eq_true rfl⟩ ⟨Nat.le_of_ble_eq_true rfl, Nat.le_of_ble_eq_true rfl⟩ dX7_demandTwoPlants_7 (fun E q => by rw [dem2, if_pos ha]; by_cases z : hasB (μ 1 0) p1 = true; rw [dem1, if_pos z] at q; cases q; rw [dem1, if_neg z] at q; rw [if_neg z]; exact q) (fun μ2 hc2 => ?_)
  obtain ⟨hb, hm2⟩ := hc2
  replace hm2 := hm2.symm
  subst hm2
  refine go_iload1 C (pc := 10) dX7_demandTwoPlants_10 ?_
  refine go_iload2 C (pc := 11) dX7_demandTwoPlants_11 ?_
  refine go_icmp_ne C (pc := 12) (tgt := 25) dX7_demandTwoPlants_12 (by decide) (fun h12 => ?_) (fun h12 => ?_)
  · exact go_xvret C hr hE ⟨Nat.le_of_ble_eq_true rfl, Nat.le_of_ble_eq_true rfl⟩ dX7_demandTwoPlants_25 (⟨⟨ha, hb, h12⟩, rfl⟩)
  · exact go_throw C hE ht (pc := 15) (cls := eIAE) (text := "both plants are the same") (ik := 125) (is := 249) (ic := 129) (by decide) lw_X7_demandTwoPlants_k125 lw_X7_demandTwoPlants_n125 th_X7_demandTwoPlants_129 ng_129 gd_129 (by decide) dX7_demandTwoPlants_15 dX7_demandTwoPlants_18 dX7_demandTwoPlants_19 dX7_demandTwoPlants_21 dX7_demandTwoPlants_24 ⟨Nat.le_of_ble_eq_true rfl, Nat.le_of_ble_eq_true rfl⟩ (Nat.le_of_ble_eq_true rfl) ⟨Nat.le_of_ble_eq_true rfl, Nat.le_of_ble_eq_true rfl⟩ ⟨Nat.le_of_ble_eq_true rfl, Nat.le_of_ble_eq_true rfl⟩ (by rw [dem2, if_pos ha, if_pos hb, if_pos h12])

theorem yok_X7_demandThorn : yOK yX7_demandThorn 2 := by unfold yOK; decide +kernel
theorem hi_X7_demandThorn_RX7 : ∀ w ∈ wsX70, w ∈ wsX7_demandThorn := by decide +kernel
theorem lk_X7_demandThorn_10 : Cond.fieldLink RX7 10 "ThornCores" "thicket" "LThornCores$Thicket;" ∈ wsX7_demandThorn := by decide +kernel
theorem th_X7_demandThorn_219 : ∀ w ∈ (nsAt RX7 219 eNSE exN).filter goodWord, w ∈ wsX7_demandThorn := by decide +kernel
theorem lw_X7_demandThorn_k215 : Cond.classLink RX7 215 eNSE ∈ wsX7_demandThorn := by decide +kernel
theorem lw_X7_demandThorn_n215 : Cond.initialized eNSE ∈ wsX7_demandThorn := by decide +kernel
set_option maxRecDepth 20000 in
set_option maxHeartbeats 4000000 in
theorem c_X7_demandThorn {l : Launch} {D : va_G} {ad : Nat → Nat} {cI cL : ClassId} (hfl : l.flags = flags0) (hok : adOK ad) (μ : Mem) (p0 p1 : Int32) : CtVX l D ad cI cL yX7_demandThorn wsX7_demandThorn (RMX 7 111 3 18) [.ref (ad 0), .int p0, .int p1] μ (fun (μ' : Mem) => (hasB (μ 1 0) p0 = true ∧ hasB (μ 1 0) p1 = true ∧ bndB (μ 1 0) (μ 3) p0 p1 = true) ∧ μ' = μ) (fun E : String => demT (μ 1 0) (μ 3) p0 p1 = some E) 3 18 := by
  refine ct_vx (cc := cX7_demandThorn) (maxL := 3) (own := RX7)  hfl hok (by decide) rfl rfl rfl (Nat.le_of_ble_eq_true rfl) (fun p e s m below meth c C hr hE ht => ?_)
  refine go_lv (lv' := [some (.ref (ad 0)), some (.int p0), some (.int p1)]) rfl ?_
  refine go_aload0 C (pc := 0) dX7_demandThorn_0 ?_
  refine go_iload1 C (pc := 1) dX7_demandThorn_1 ?_
  refine go_xvV1 C hE ht (pc := 2) obj_0 (c_X7_demandPlant C.fl C.ok _ _ ) gX7_demandThorn_X7_demandPlant rfl rfl yok_X7_demandPlant ⟨rfl, rfl⟩ ⟨Nat.le_of_ble_eq_true rfl, Nat.le_of_ble_eq_true rfl⟩ (Nat.le_of_ble_eq_true rfl) ⟨Nat.le_of_ble_eq_true rfl, Nat.le_of_ble_eq_true rfl⟩ ⟨Nat.le_of_ble_eq_true rfl, Nat.le_of_ble_eq_true rfl⟩ dX7_demandThorn_2 (fun E q => by rw [demT]; by_cases z : hasB (μ 1 0) p0 = true; rw [dem1, if_pos z] at q; cases q; rw [dem1, if_neg z] at q; rw [if_neg z]; exact q) (fun μ1 hc1 => ?_)
  obtain ⟨ha, hm1⟩ := hc1
  replace hm1 := hm1.symm
  subst hm1
  refine go_aload0 C (pc := 5) dX7_demandThorn_5 ?_
  refine go_iload2 C (pc := 6) dX7_demandThorn_6 ?_
  refine go_xvV1 C hE ht (pc := 7) obj_0 (c_X7_demandPlant C.fl C.ok _ _ ) gX7_demandThorn_X7_demandPlant rfl rfl yok_X7_demandPlant ⟨rfl, rfl⟩ ⟨Nat.le_of_ble_eq_true rfl, Nat.le_of_ble_eq_true rfl⟩ (Nat.le_of_ble_eq_true rfl) ⟨Nat.le_of_ble_eq_true rfl, Nat.le_of_ble_eq_true rfl⟩ ⟨Nat.le_of_ble_eq_true rfl, Nat.le_of_ble_eq_true rfl⟩ dX7_demandThorn_7 (fun E q => by rw [demT, if_pos ha]; by_cases z : hasB (μ 1 0) p1 = true; rw [dem1, if_pos z] at q; cases q; rw [dem1, if_neg z] at q; rw [if_neg z]; exact q) (fun μ2 hc2 => ?_)
  obtain ⟨hb, hm2⟩ := hc2
  replace hm2 := hm2.symm
  subst hm2
  refine go_aload0 C (pc := 10) dX7_demandThorn_10 ?_
  refine go_get C (pc := 11) 0 (by decide) rfl rfl 0 (by decide) rfl rfl hi_X7_demandThorn_RX7 lk_X7_demandThorn_10 dX7_demandThorn_11 ?_
  refine go_iload1 C (pc := 14) dX7_demandThorn_14 ?_
  refine go_iload2 C (pc := 15) dX7_demandThorn_15 ?_
  refine go_ciV2 C (pc := 16) obj_1 (c_X5_isBound C.fl C.ok _ _ _ ) gX7_demandThorn_X5_isBound rfl rfl yok_X5_isBound ⟨rfl, rfl⟩ ⟨Nat.le_of_ble_eq_true rfl, Nat.le_of_ble_eq_true rfl⟩ (Nat.le_of_ble_eq_true rfl) ⟨Nat.le_of_ble_eq_true rfl, Nat.le_of_ble_eq_true rfl⟩ dX7_demandThorn_16 (fun r3 μ3 hc3 => ?_)
  obtain ⟨rfl, hm3⟩ := hc3
  replace hm3 := hm3.symm
  subst hm3
  refine go_if_ne C (pc := 19) (tgt := 32) dX7_demandThorn_19 (by decide) (fun h19 => ?_) (fun h19 => ?_)
  · exact go_xvret C hr hE ⟨Nat.le_of_ble_eq_true rfl, Nat.le_of_ble_eq_true rfl⟩ dX7_demandThorn_32 (⟨⟨ha, hb, bneg h19⟩, rfl⟩)
  · exact go_throwN C hE ht (pc := 22) (cls := eNSE) (sup := "java/lang/RuntimeException") (text := "they are not bound") (ik := 215) (is := 110) (ic := 219) (by decide) (by decide) lw_X7_demandThorn_k215 lw_X7_demandThorn_n215 th_X7_demandThorn_219 ng_219 gd_219 (by decide) dX7_demandThorn_22 dX7_demandThorn_25 dX7_demandThorn_26 dX7_demandThorn_28 dX7_demandThorn_31 ⟨Nat.le_of_ble_eq_true rfl, Nat.le_of_ble_eq_true rfl⟩ (Nat.le_of_ble_eq_true rfl) ⟨Nat.le_of_ble_eq_true rfl, Nat.le_of_ble_eq_true rfl⟩ ⟨Nat.le_of_ble_eq_true rfl, Nat.le_of_ble_eq_true rfl⟩ (by rw [demT, if_pos ha, if_pos hb, if_neg (by rw [bpos h19]; decide)])

theorem yok_X7_demandK : yOK yX7_demandK 1 := by unfold yOK; decide +kernel
theorem th_X7_demandK_129 : ∀ w ∈ (vx_atS RX7 129 eIAE exN).filter goodWord, w ∈ wsX7_demandK := by decide +kernel
theorem lw_X7_demandK_k125 : Cond.classLink RX7 125 eIAE ∈ wsX7_demandK := by decide +kernel
theorem lw_X7_demandK_n125 : Cond.initialized eIAE ∈ wsX7_demandK := by decide +kernel
set_option maxRecDepth 20000 in
set_option maxHeartbeats 4000000 in
theorem c_X7_demandK {l : Launch} {D : va_G} {ad : Nat → Nat} {cI cL : ClassId} (hfl : l.flags = flags0) (hok : adOK ad) (μ : Mem) (p0 : Int32) : CtVX l D ad cI cL yX7_demandK wsX7_demandK (RMX 6 90 1 6) [.ref (ad 0), .int p0] μ (fun (μ' : Mem) => demK p0 = none ∧ μ' = μ) (fun E : String => demK p0 = some E) 1 6 := by
  refine ct_vx (cc := cX7_demandK) (maxL := 2) (own := RX7)  hfl hok (by decide) rfl rfl rfl (Nat.le_of_ble_eq_true rfl) (fun p e s m below meth c C hr hE ht => ?_)
  refine go_lv (lv' := [some (.ref (ad 0)), some (.int p0)]) rfl ?_
  refine go_iload1 C (pc := 0) dX7_demandK_0 ?_
  refine go_if_lt C (pc := 1) (tgt := 10) dX7_demandK_1 (by decide) (fun h1 => ?_) (fun h1 => ?_)
  · exact go_throw C hE ht (pc := 10) (cls := eIAE) (text := "k is out of range") (ik := 125) (is := 251) (ic := 129) (by decide) lw_X7_demandK_k125 lw_X7_demandK_n125 th_X7_demandK_129 ng_129 gd_129 (by decide) dX7_demandK_10 dX7_demandK_13 dX7_demandK_14 dX7_demandK_16 dX7_demandK_19 ⟨Nat.le_of_ble_eq_true rfl, Nat.le_of_ble_eq_true rfl⟩ (Nat.le_of_ble_eq_true rfl) ⟨Nat.le_of_ble_eq_true rfl, Nat.le_of_ble_eq_true rfl⟩ ⟨Nat.le_of_ble_eq_true rfl, Nat.le_of_ble_eq_true rfl⟩ (by rw [demK, if_pos h1])
  · refine go_iload1 C (pc := 4) dX7_demandK_4 ?_
    refine go_bipush C (pc := 5) (v := 15) (by decide) dX7_demandK_5 ?_
    refine go_icmp_le C (pc := 7) (tgt := 20) dX7_demandK_7 (by decide) (fun h7 => ?_) (fun h7 => ?_)
    · exact go_xvret C hr hE ⟨Nat.le_of_ble_eq_true rfl, Nat.le_of_ble_eq_true rfl⟩ dX7_demandK_20 (⟨by rw [demK, if_neg h1, if_neg (Int32.not_lt.mpr h7)], rfl⟩)
    · exact go_throw C hE ht (pc := 10) (cls := eIAE) (text := "k is out of range") (ik := 125) (is := 251) (ic := 129) (by decide) lw_X7_demandK_k125 lw_X7_demandK_n125 th_X7_demandK_129 ng_129 gd_129 (by decide) dX7_demandK_10 dX7_demandK_13 dX7_demandK_14 dX7_demandK_16 dX7_demandK_19 ⟨Nat.le_of_ble_eq_true rfl, Nat.le_of_ble_eq_true rfl⟩ (Nat.le_of_ble_eq_true rfl) ⟨Nat.le_of_ble_eq_true rfl, Nat.le_of_ble_eq_true rfl⟩ ⟨Nat.le_of_ble_eq_true rfl, Nat.le_of_ble_eq_true rfl⟩ (by rw [demK, if_neg h1, if_pos (Int32.not_le.mp h7)])

