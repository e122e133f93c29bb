/-! ===== ThornCores: the calls, where nothing is thrown ===== -/
def same (μ μ' : Mem) (L : List Nat) : Prop := ∀ k, k ∉ L → μ' k = μ k
theorem same_rf {μ : Mem} {L : List Nat} : same μ μ L := fun _ _ => rfl
theorem same_ms {μ μ1 : Mem} {L : List Nat} {j : Nat} {f : Nat → Int32} (h : same μ μ1 L) (hj : j ∈ L) : same μ (mset μ1 j f) L := fun k hk => by
  rw [mset_ne _ _ (show k ≠ j from fun e => hk (by rw [e]; exact hj))]
  exact h k hk
theorem sm_row {n : Nat} {pr : Int32} {th : Nat → Int32} (hT : TV n pr th) {i : Nat} (hi : i < 16) : sm (th i) := fun j hj => by
  cases q : bt (th i) j
  · rfl
  · exact absurd (hT.2.2.1 i j hi q).2.1 (by have := hT.1; omega)
theorem hasB_j {n j : Nat} (hn : n ≤ 16) (hj : j < n) : hasB (nI n) (nI j) = true := by
  unfold hasB
  rw [decide_eq_false (nI_pos (by omega)), decide_eq_true (nI_lt hj (by omega))]; rfl
theorem yok_X7_demandPlant : yOK yX7_demandPlant 1 := by unfold yOK; decide +kernel
theorem hi_X7_demandPlant_RX7 : ∀ w ∈ wsX70, w ∈ wsX7_demandPlant := by decide +kernel
theorem lk_X7_demandPlant_10 : Cond.fieldLink RX7 10 "ThornCores" "thicket" "LThornCores$Thicket;" ∈ wsX7_demandPlant := by decide +kernel
set_option maxRecDepth 20000 in
set_option maxHeartbeats 4000000 in
theorem c_X7_demandPlant {l : Launch} {D : va_G} {ad : Nat → Nat} {cI cL : ClassId} (hfl : l.flags = flags0) (hok : adOK ad) (μ : Mem) (p0 : Int32) (hd : hasB (μ 1 0) p0 = true) : CtV l D ad cI cL yX7_demandPlant wsX7_demandPlant (RM 6 90) [.ref (ad 0), .int p0] μ (fun (μ' : Mem) => μ' = μ) := by
  refine ct_v (cc := cX7_demandPlant) (maxL := 2) (own := RX7) hfl hok (by decide) rfl rfl rfl (Nat.le_of_ble_eq_true rfl) (fun p e s m below meth c C hr => ?_)
  refine go_lv (lv' := [some (.ref (ad 0)), some (.int p0)]) rfl ?_
  refine go_aload0 C (pc := 0) dX7_demandPlant_0 ?_
  refine go_get C (pc := 1) 0 (by decide) rfl rfl 0 (by decide) rfl rfl hi_X7_demandPlant_RX7 lk_X7_demandPlant_10 dX7_demandPlant_1 ?_
  refine go_iload1 C (pc := 4) dX7_demandPlant_4 ?_
  refine go_ciV1 C (pc := 5) obj_1 (c_X5_has C.fl C.ok _ _ ) gX7_demandPlant_X5_has rfl rfl yok_X5_has ⟨rfl, rfl⟩ ⟨Nat.le_of_ble_eq_true rfl, Nat.le_of_ble_eq_true rfl⟩ (Nat.le_of_ble_eq_true rfl) ⟨Nat.zero_le _, Nat.zero_le _⟩ dX7_demandPlant_5 (fun r1 μ1 hc1 => ?_)
  obtain ⟨rfl, hm1⟩ := hc1
  replace hm1 := hm1.symm
  subst hm1
  refine go_if_ne C (pc := 8) (tgt := 21) dX7_demandPlant_8 (by decide) (fun h8 => ?_) (fun h8 => ?_)
  · exact go_vret C hr dX7_demandPlant_21 (rfl)
  · exact absurd (bpos h8) (by rw [hd]; decide)

theorem yok_X7_demandTwoPlants : yOK yX7_demandTwoPlants 2 := by unfold yOK; decide +kernel
set_option maxRecDepth 20000 in
set_option maxHeartbeats 4000000 in
theorem c_X7_demandTwoPlants {l : Launch} {D : va_G} {ad : Nat → Nat} {cI cL : ClassId} (hfl : l.flags = flags0) (hok : adOK ad) (μ : Mem) (p0 p1 : Int32) (hd1 : hasB (μ 1 0) p0 = true) (hd2 : hasB (μ 1 0) p1 = true) (hne : p0 ≠ p1) : CtV l D ad cI cL yX7_demandTwoPlants wsX7_demandTwoPlants (RM 7 111) [.ref (ad 0), .int p0, .int p1] μ (fun (μ' : Mem) => μ' = μ) := by
  refine ct_v (cc := cX7_demandTwoPlants) (maxL := 3) (own := RX7) hfl hok (by decide) rfl rfl rfl (Nat.le_of_ble_eq_true rfl) (fun p e s m below meth c C hr => ?_)
  refine go_lv (lv' := [some (.ref (ad 0)), some (.int p0), some (.int p1)]) rfl ?_
  refine go_aload0 C (pc := 0) dX7_demandTwoPlants_0 ?_
  refine go_iload1 C (pc := 1) dX7_demandTwoPlants_1 ?_
  refine go_cvV1 C (pc := 2) obj_0 (c_X7_demandPlant C.fl C.ok _ _ hd1) gX7_demandTwoPlants_X7_demandPlant rfl rfl yok_X7_demandPlant ⟨rfl, rfl⟩ ⟨Nat.le_of_ble_eq_true rfl, Nat.le_of_ble_eq_true rfl⟩ (Nat.le_of_ble_eq_true rfl) ⟨Nat.zero_le _, Nat.zero_le _⟩ dX7_demandTwoPlants_2 (fun μ1 hc1 => ?_)
  replace hc1 := hc1.symm
  subst hc1
  refine go_aload0 C (pc := 5) dX7_demandTwoPlants_5 ?_
  refine go_iload2 C (pc := 6) dX7_demandTwoPlants_6 ?_
  refine go_cvV1 C (pc := 7) obj_0 (c_X7_demandPlant C.fl C.ok _ _ hd2) gX7_demandTwoPlants_X7_demandPlant rfl rfl yok_X7_demandPlant ⟨rfl, rfl⟩ ⟨Nat.le_of_ble_eq_true rfl, Nat.le_of_ble_eq_true rfl⟩ (Nat.le_of_ble_eq_true rfl) ⟨Nat.zero_le _, Nat.zero_le _⟩ dX7_demandTwoPlants_7 (fun μ2 hc2 => ?_)
  replace hc2 := hc2.symm
  subst hc2
  refine go_iload1 C (pc := 10) dX7_demandTwoPlants_10 ?_
  refine go_iload2 C (pc := 11) dX7_demandTwoPlants_11 ?_
  refine go_icmp_ne C (pc := 12) (tgt := 25) dX7_demandTwoPlants_12 (by decide) (fun h12 => ?_) (fun h12 => ?_)
  · exact go_vret C hr dX7_demandTwoPlants_25 (rfl)
  · exact absurd h12 hne

theorem yok_X7_demandThorn : yOK yX7_demandThorn 2 := by unfold yOK; decide +kernel
theorem hi_X7_demandThorn_RX7 : ∀ w ∈ wsX70, w ∈ wsX7_demandThorn := by decide +kernel
theorem lk_X7_demandThorn_10 : Cond.fieldLink RX7 10 "ThornCores" "thicket" "LThornCores$Thicket;" ∈ wsX7_demandThorn := by decide +kernel
set_option maxRecDepth 20000 in
set_option maxHeartbeats 4000000 in
theorem c_X7_demandThorn {l : Launch} {D : va_G} {ad : Nat → Nat} {cI cL : ClassId} (hfl : l.flags = flags0) (hok : adOK ad) (μ : Mem) (p0 p1 : Int32) (hd1 : hasB (μ 1 0) p0 = true) (hd2 : hasB (μ 1 0) p1 = true) (hb : bndB (μ 1 0) (μ 3) p0 p1 = true) : CtV l D ad cI cL yX7_demandThorn wsX7_demandThorn (RM 7 111) [.ref (ad 0), .int p0, .int p1] μ (fun (μ' : Mem) => μ' = μ) := by
  refine ct_v (cc := cX7_demandThorn) (maxL := 3) (own := RX7) hfl hok (by decide) rfl rfl rfl (Nat.le_of_ble_eq_true rfl) (fun p e s m below meth c C hr => ?_)
  refine go_lv (lv' := [some (.ref (ad 0)), some (.int p0), some (.int p1)]) rfl ?_
  refine go_aload0 C (pc := 0) dX7_demandThorn_0 ?_
  refine go_iload1 C (pc := 1) dX7_demandThorn_1 ?_
  refine go_cvV1 C (pc := 2) obj_0 (c_X7_demandPlant C.fl C.ok _ _ hd1) gX7_demandThorn_X7_demandPlant rfl rfl yok_X7_demandPlant ⟨rfl, rfl⟩ ⟨Nat.le_of_ble_eq_true rfl, Nat.le_of_ble_eq_true rfl⟩ (Nat.le_of_ble_eq_true rfl) ⟨Nat.zero_le _, Nat.zero_le _⟩ dX7_demandThorn_2 (fun μ1 hc1 => ?_)
  replace hc1 := hc1.symm
  subst hc1
  refine go_aload0 C (pc := 5) dX7_demandThorn_5 ?_
  refine go_iload2 C (pc := 6) dX7_demandThorn_6 ?_
  refine go_cvV1 C (pc := 7) obj_0 (c_X7_demandPlant C.fl C.ok _ _ hd2) gX7_demandThorn_X7_demandPlant rfl rfl yok_X7_demandPlant ⟨rfl, rfl⟩ ⟨Nat.le_of_ble_eq_true rfl, Nat.le_of_ble_eq_true rfl⟩ (Nat.le_of_ble_eq_true rfl) ⟨Nat.zero_le _, Nat.zero_le _⟩ dX7_demandThorn_7 (fun μ2 hc2 => ?_)
  replace hc2 := hc2.symm
  subst hc2
  refine go_aload0 C (pc := 10) dX7_demandThorn_10 ?_
  refine go_get C (pc := 11) 0 (by decide) rfl rfl 0 (by decide) rfl rfl hi_X7_demandThorn_RX7 lk_X7_demandThorn_10 dX7_demandThorn_11 ?_
  refine go_iload1 C (pc := 14) dX7_demandThorn_14 ?_
  refine go_iload2 C (pc := 15) dX7_demandThorn_15 ?_
  refine go_ciV2 C (pc := 16) obj_1 (c_X5_isBound C.fl C.ok _ _ _ ) gX7_demandThorn_X5_isBound rfl rfl yok_X5_isBound ⟨rfl, rfl⟩ ⟨Nat.le_of_ble_eq_true rfl, Nat.le_of_ble_eq_true rfl⟩ (Nat.le_of_ble_eq_true rfl) ⟨Nat.zero_le _, Nat.zero_le _⟩ dX7_demandThorn_16 (fun r3 μ3 hc3 => ?_)
  obtain ⟨rfl, hm3⟩ := hc3
  replace hm3 := hm3.symm
  subst hm3
  refine go_if_ne C (pc := 19) (tgt := 32) dX7_demandThorn_19 (by decide) (fun h19 => ?_) (fun h19 => ?_)
  · exact go_vret C hr dX7_demandThorn_32 (rfl)
  · exact absurd (bpos h19) (by rw [hb]; decide)

theorem yok_X7_demandK : yOK yX7_demandK 1 := by unfold yOK; decide +kernel
set_option maxRecDepth 20000 in
set_option maxHeartbeats 4000000 in
theorem c_X7_demandK {l : Launch} {D : va_G} {ad : Nat → Nat} {cI cL : ClassId} (hfl : l.flags = flags0) (hok : adOK ad) (μ : Mem) (k : Nat) (hk : k ≤ 15) : CtV l D ad cI cL yX7_demandK wsX7_demandK (RM 6 90) [.ref (ad 0), .int (nI k)] μ (fun (μ' : Mem) => μ' = μ) := by
  refine ct_v (cc := cX7_demandK) (maxL := 2) (own := RX7) hfl hok (by decide) rfl rfl rfl (Nat.le_of_ble_eq_true rfl) (fun p e s m below meth c C hr => ?_)
  refine go_lv (lv' := [some (.ref (ad 0)), some (.int (nI k))]) rfl ?_
  refine go_iload1 C (pc := 0) dX7_demandK_0 ?_
  refine go_if_lt C (pc := 1) (tgt := 10) dX7_demandK_1 (by decide) (fun h1 => ?_) (fun h1 => ?_)
  · exact absurd h1 (nI_pos (by omega))
  · refine go_iload1 C (pc := 4) dX7_demandK_4 ?_
    refine go_bipush C (pc := 5) (v := 15) (by decide) dX7_demandK_5 ?_
    refine go_icmp_le C (pc := 7) (tgt := 20) dX7_demandK_7 (by decide) (fun h7 => ?_) (fun h7 => ?_)
    · exact go_vret C hr dX7_demandK_20 (rfl)
    · exact absurd (Int32.not_le.mp h7) (show ¬ (15 : Int32) < nI k from nI_nlt (a := 15) hk (by omega))

theorem yok_X7_plant : yOK yX7_plant 0 := by unfold yOK; decide +kernel
theorem hi_X7_plant_RX7 : ∀ w ∈ wsX70, w ∈ wsX7_plant := by decide +kernel
theorem lk_X7_plant_10 : Cond.fieldLink RX7 10 "ThornCores" "thicket" "LThornCores$Thicket;" ∈ wsX7_plant := by decide +kernel
theorem lk_X7_plant_26 : Cond.fieldLink RX7 26 "ThornCores" "history" "LThornCores$History;" ∈ wsX7_plant := by decide +kernel
theorem hi_X7_plant_RX5 : ∀ w ∈ wsX50, w ∈ wsX7_plant := by decide +kernel
set_option maxRecDepth 20000 in
set_option maxHeartbeats 4000000 in
theorem c_X7_plant {l : Launch} {D : va_G} {ad : Nat → Nat} {cI cL : ClassId} (hfl : l.flags = flags0) (hok : adOK ad) (μ : Mem) {n : Nat} (hc : μ 1 0 = nI n) (hT : TV n (μ 1 1) (μ 3)) (q : Nat) (h : Nat → Nat → Int32) (hC : CH μ q h) (hlt : n < 16) : CtI l D ad cI cL yX7_plant wsX7_plant (RM 6 90) [.ref (ad 0)] μ (fun (r : Int32) (μ' : Mem) => r = nI n ∧ μ' 1 = upd (μ 1) 0 (nI (n + 1)) ∧ CH μ' (remM q) (remH q h (stV (μ 1 0) (μ 1 1) (μ 3))) ∧ same μ μ' [1, 7, 9]) := by
  refine ct_i (cc := cX7_plant) (maxL := 1) (own := RX7) .int hfl hok (by decide) rfl rfl rfl (Nat.le_of_ble_eq_true rfl) (fun p e s m below meth c C hr => ?_)
  refine go_lv (lv' := [some (.ref (ad 0))]) rfl ?_
  have hn := hT.1
  refine go_aload0 C (pc := 0) dX7_plant_0 ?_
  refine go_get C (pc := 1) 0 (by decide) rfl rfl 0 (by decide) rfl rfl hi_X7_plant_RX7 lk_X7_plant_10 dX7_plant_1 ?_
  refine go_ciV0 C (pc := 4) obj_1 (c_X5_isFullN C.fl C.ok _ hc hT.1) gX7_plant_X5_isFull rfl rfl yok_X5_isFull ⟨rfl, rfl⟩ ⟨Nat.le_of_ble_eq_true rfl, Nat.le_of_ble_eq_true rfl⟩ (Nat.le_of_ble_eq_true rfl) ⟨Nat.zero_le _, Nat.zero_le _⟩ dX7_plant_4 (fun r1 μ1 hc1 => ?_)
  obtain ⟨rfl, hm1⟩ := hc1
  replace hm1 := hm1.symm
  subst hm1
  refine go_if_eq C (pc := 7) (tgt := 20) dX7_plant_7 (by decide) (fun h7 => ?_) (fun h7 => ?_)
  · refine go_aload0 C (pc := 20) dX7_plant_20 ?_
    refine go_get C (pc := 21) 0 (by decide) rfl rfl 2 (by decide) rfl rfl hi_X7_plant_RX7 lk_X7_plant_26 dX7_plant_21 ?_
    refine go_aload0 C (pc := 24) dX7_plant_24 ?_
    refine go_get C (pc := 25) 0 (by decide) rfl rfl 0 (by decide) rfl rfl hi_X7_plant_RX7 lk_X7_plant_10 dX7_plant_25 ?_
    refine go_cvV1 C (pc := 28) obj_7 (c_X2_remember C.fl C.ok _ q h hC) gX7_plant_X2_remember rfl rfl yok_X2_remember ⟨rfl, rfl⟩ ⟨Nat.le_of_ble_eq_true rfl, Nat.le_of_ble_eq_true rfl⟩ (Nat.le_of_ble_eq_true rfl) ⟨Nat.zero_le _, Nat.zero_le _⟩ dX7_plant_28 (fun μ3 hc3 => ?_)
    obtain ⟨⟨f1, g1, rfl⟩, hC1⟩ := hc3
    refine go_aload0 C (pc := 31) dX7_plant_31 ?_
    refine go_get C (pc := 32) 0 (by decide) rfl rfl 0 (by decide) rfl rfl hi_X7_plant_RX7 lk_X7_plant_10 dX7_plant_32 ?_
    refine go_ciV0 C (pc := 35) obj_1 (c_X5_grow C.fl C.ok _ ) gX7_plant_X5_grow rfl rfl yok_X5_grow ⟨rfl, rfl⟩ ⟨Nat.le_of_ble_eq_true rfl, Nat.le_of_ble_eq_true rfl⟩ (Nat.le_of_ble_eq_true rfl) ⟨Nat.zero_le _, Nat.zero_le _⟩ dX7_plant_35 (fun r4 μ4 hc4 => ?_)
    obtain ⟨rfl, hm4⟩ := hc4
    rw [if_pos (show (mset (mset μ 7 f1) 9 g1) 1 0 < 16 by show μ 1 0 < 16; rw [hc, nI16]; exact nI_lt hlt (by decide))] at hm4
    replace hm4 : μ4 = mset (mset (mset μ 7 f1) 9 g1) 1 (upd (μ 1) 0 (nI (n + 1))) := by rw [← nI_1, ← hc]; exact hm4
    subst hm4
    refine go_pop C (pc := 38) rfl dX7_plant_38 ?_
    refine go_aload0 C (pc := 39) dX7_plant_39 ?_
    refine go_get C (pc := 40) 0 (by decide) rfl rfl 0 (by decide) rfl rfl hi_X7_plant_RX7 lk_X7_plant_10 dX7_plant_40 ?_
    refine go_getN C (pc := 43) 1 (by decide) rfl rfl 0 (by decide) rfl rfl hi_X7_plant_RX5 (host := "ThornCores") (by decide +kernel) dX7_plant_43 ?_
    refine go_iconst C (pc := 46) (v := 1) (by decide) dX7_plant_46 ?_
    refine go_isub C (pc := 47) dX7_plant_47 ?_
    refine go_top (y := nI n) (show nI (n + 1) - 1 = nI n by rw [← nI_1, Int32.add_sub_cancel]) ?_
    exact go_iret C hr dX7_plant_48 (⟨rfl, rfl, hC1, (by repeat' (first | exact same_rf | refine same_ms ?_ (by decide)))⟩)
  · exact absurd (of_decide_eq_true (bneg h7)) (by omega)

theorem yok_X7_uproot : yOK yX7_uproot 1 := by unfold yOK; decide +kernel
theorem hi_X7_uproot_RX7 : ∀ w ∈ wsX70, w ∈ wsX7_uproot := by decide +kernel
theorem lk_X7_uproot_26 : Cond.fieldLink RX7 26 "ThornCores" "history" "LThornCores$History;" ∈ wsX7_uproot := by decide +kernel
theorem lk_X7_uproot_10 : Cond.fieldLink RX7 10 "ThornCores" "thicket" "LThornCores$Thicket;" ∈ wsX7_uproot := by decide +kernel
set_option maxRecDepth 20000 in
set_option maxHeartbeats 4000000 in
theorem c_X7_uproot {l : Launch} {D : va_G} {ad : Nat → Nat} {cI cL : ClassId} (hfl : l.flags = flags0) (hok : adOK ad) (μ : Mem) {n : Nat} (hc : μ 1 0 = nI n) (hT : TV n (μ 1 1) (μ 3)) (q : Nat) (h : Nat → Nat → Int32) (hC : CH μ q h) (j : Nat) (hj : j < n) : CtI l D ad cI cL yX7_uproot wsX7_uproot (RM 7 111) [.ref (ad 0), .int (nI j)] μ (fun (r : Int32) (μ' : Mem) => r = nI (ct (μ 3 j)) ∧ μ' 3 = pullT (μ 3) j ∧ μ' 1 0 = nI n - 1 ∧ μ' 1 1 = closeG (μ 1 1) (nI j) ∧ CH μ' (remM q) (remH q h (stV (μ 1 0) (μ 1 1) (μ 3))) ∧ same μ μ' [1, 3, 7, 9]) := by
  refine ct_i (cc := cX7_uproot) (maxL := 3) (own := RX7) .int hfl hok (by decide) rfl rfl rfl (Nat.le_of_ble_eq_true rfl) (fun p e s m below meth c C hr => ?_)
  refine go_lv (lv' := [some (.ref (ad 0)), some (.int (nI j)), none]) rfl ?_
  have hn := hT.1
  refine go_aload0 C (pc := 0) dX7_uproot_0 ?_
  refine go_iload1 C (pc := 1) dX7_uproot_1 ?_
  refine go_cvV1 C (pc := 2) obj_0 (c_X7_demandPlant C.fl C.ok _ _ (by rw [hc]; exact hasB_j hn hj)) gX7_uproot_X7_demandPlant rfl rfl yok_X7_demandPlant ⟨rfl, rfl⟩ ⟨Nat.le_of_ble_eq_true rfl, Nat.le_of_ble_eq_true rfl⟩ (Nat.le_of_ble_eq_true rfl) ⟨Nat.zero_le _, Nat.zero_le _⟩ dX7_uproot_2 (fun μ1 hc1 => ?_)
  replace hc1 := hc1.symm
  subst hc1
  refine go_aload0 C (pc := 5) dX7_uproot_5 ?_
  refine go_get C (pc := 6) 0 (by decide) rfl rfl 2 (by decide) rfl rfl hi_X7_uproot_RX7 lk_X7_uproot_26 dX7_uproot_6 ?_
  refine go_aload0 C (pc := 9) dX7_uproot_9 ?_
  refine go_get C (pc := 10) 0 (by decide) rfl rfl 0 (by decide) rfl rfl hi_X7_uproot_RX7 lk_X7_uproot_10 dX7_uproot_10 ?_
  refine go_cvV1 C (pc := 13) obj_7 (c_X2_remember C.fl C.ok _ q h hC) gX7_uproot_X2_remember rfl rfl yok_X2_remember ⟨rfl, rfl⟩ ⟨Nat.le_of_ble_eq_true rfl, Nat.le_of_ble_eq_true rfl⟩ (Nat.le_of_ble_eq_true rfl) ⟨Nat.zero_le _, Nat.zero_le _⟩ dX7_uproot_13 (fun μ2 hc2 => ?_)
  obtain ⟨⟨f1, g1, rfl⟩, hC1⟩ := hc2
  refine go_aload0 C (pc := 16) dX7_uproot_16 ?_
  refine go_get C (pc := 17) 0 (by decide) rfl rfl 0 (by decide) rfl rfl hi_X7_uproot_RX7 lk_X7_uproot_10 dX7_uproot_17 ?_
  refine go_iload1 C (pc := 20) dX7_uproot_20 ?_
  refine go_ciV1 C (pc := 21) obj_1 (c_X5_heldN C.fl C.ok _ _ (by omega) (sm_row hT (by omega))) gX7_uproot_X5_held rfl rfl yok_X5_held ⟨rfl, rfl⟩ ⟨Nat.le_of_ble_eq_true rfl, Nat.le_of_ble_eq_true rfl⟩ (Nat.le_of_ble_eq_true rfl) ⟨Nat.zero_le _, Nat.zero_le _⟩ dX7_uproot_21 (fun r3 μ3 hc3 => ?_)
  obtain ⟨rfl, hm3⟩ := hc3
  replace hm3 := hm3.symm
  subst hm3
  refine go_istore2 C (pc := 24) dX7_uproot_24 ?_
  refine go_aload0 C (pc := 25) dX7_uproot_25 ?_
  refine go_get C (pc := 26) 0 (by decide) rfl rfl 0 (by decide) rfl rfl hi_X7_uproot_RX7 lk_X7_uproot_10 dX7_uproot_26 ?_
  refine go_iload1 C (pc := 29) dX7_uproot_29 ?_
  refine go_cvV1 C (pc := 30) obj_1 (c_X5_pullOut C.fl C.ok _ _ hc hn hj) gX7_uproot_X5_pullOut rfl rfl yok_X5_pullOut ⟨rfl, rfl⟩ ⟨Nat.le_of_ble_eq_true rfl, Nat.le_of_ble_eq_true rfl⟩ (Nat.le_of_ble_eq_true rfl) ⟨Nat.zero_le _, Nat.zero_le _⟩ dX7_uproot_30 (fun μ4 hc4 => ?_)
  replace hc4 := hc4.symm
  subst hc4
  refine go_iload2 C (pc := 33) dX7_uproot_33 ?_
  exact go_iret C hr dX7_uproot_34 (⟨rfl, rfl, rfl, rfl, hC1, (by repeat' (first | exact same_rf | refine same_ms ?_ (by decide)))⟩)

theorem yok_X7_bind : yOK yX7_bind 2 := by unfold yOK; decide +kernel
theorem hi_X7_bind_RX7 : ∀ w ∈ wsX70, w ∈ wsX7_bind := by decide +kernel
theorem lk_X7_bind_10 : Cond.fieldLink RX7 10 "ThornCores" "thicket" "LThornCores$Thicket;" ∈ wsX7_bind := by decide +kernel
theorem lk_X7_bind_26 : Cond.fieldLink RX7 26 "ThornCores" "history" "LThornCores$History;" ∈ wsX7_bind := by decide +kernel
set_option maxRecDepth 20000 in
set_option maxHeartbeats 4000000 in
theorem c_X7_bind {l : Launch} {D : va_G} {ad : Nat → Nat} {cI cL : ClassId} (hfl : l.flags = flags0) (hok : adOK ad) (μ : Mem) {n : Nat} (hc : μ 1 0 = nI n) (hT : TV n (μ 1 1) (μ 3)) (q : Nat) (h : Nat → Nat → Int32) (hC : CH μ q h) (i j : Nat) (hi : i < n) (hj : j < n) (hne : i ≠ j) (hb : bt (μ 3 i) j = false) : CtI l D ad cI cL yX7_bind wsX7_bind (RM 8 133) [.ref (ad 0), .int (nI i), .int (nI j)] μ (fun (r : Int32) (μ' : Mem) => r = nI (ct (tieE (μ 3) i j i)) ∧ CSm μ' (n, μ 1 1, tieE (μ 3) i j) ∧ CH μ' (remM q) (remH q h (stV (μ 1 0) (μ 1 1) (μ 3))) ∧ same μ μ' [1, 3, 7, 9]) := by
  refine ct_i (cc := cX7_bind) (maxL := 3) (own := RX7) .int hfl hok (by decide) rfl rfl rfl (Nat.le_of_ble_eq_true rfl) (fun p e s m below meth c C hr => ?_)
  refine go_lv (lv' := [some (.ref (ad 0)), some (.int (nI i)), some (.int (nI j))]) rfl ?_
  have hn := hT.1
  refine go_aload0 C (pc := 0) dX7_bind_0 ?_
  refine go_iload1 C (pc := 1) dX7_bind_1 ?_
  refine go_iload2 C (pc := 2) dX7_bind_2 ?_
  refine go_cvV2 C (pc := 3) obj_0 (c_X7_demandTwoPlants C.fl C.ok _ _ _ (by rw [hc]; exact hasB_j hn hi) (by rw [hc]; exact hasB_j hn hj) (fun z => hne (nI_inj3 (by omega) (by omega) z))) gX7_bind_X7_demandTwoPlants rfl rfl yok_X7_demandTwoPlants ⟨rfl, rfl⟩ ⟨Nat.le_of_ble_eq_true rfl, Nat.le_of_ble_eq_true rfl⟩ (Nat.le_of_ble_eq_true rfl) ⟨Nat.zero_le _, Nat.zero_le _⟩ dX7_bind_3 (fun μ1 hc1 => ?_)
  replace hc1 := hc1.symm
  subst hc1
  refine go_aload0 C (pc := 6) dX7_bind_6 ?_
  refine go_get C (pc := 7) 0 (by decide) rfl rfl 0 (by decide) rfl rfl hi_X7_bind_RX7 lk_X7_bind_10 dX7_bind_7 ?_
  refine go_iload1 C (pc := 10) dX7_bind_10 ?_
  refine go_iload2 C (pc := 11) dX7_bind_11 ?_
  refine go_ciV2 C (pc := 12) obj_1 (c_X5_isBoundN C.fl C.ok _ _ _ hc hT (by omega) (by omega)) gX7_bind_X5_isBound rfl rfl yok_X5_isBound ⟨rfl, rfl⟩ ⟨Nat.le_of_ble_eq_true rfl, Nat.le_of_ble_eq_true rfl⟩ (Nat.le_of_ble_eq_true rfl) ⟨Nat.zero_le _, Nat.zero_le _⟩ dX7_bind_12 (fun r2 μ2 hc2 => ?_)
  obtain ⟨rfl, hm2⟩ := hc2
  replace hm2 := hm2.symm
  subst hm2
  refine go_if_eq C (pc := 15) (tgt := 28) dX7_bind_15 (by decide) (fun h15 => ?_) (fun h15 => ?_)
  · refine go_aload0 C (pc := 28) dX7_bind_28 ?_
    refine go_get C (pc := 29) 0 (by decide) rfl rfl 2 (by decide) rfl rfl hi_X7_bind_RX7 lk_X7_bind_26 dX7_bind_29 ?_
    refine go_aload0 C (pc := 32) dX7_bind_32 ?_
    refine go_get C (pc := 33) 0 (by decide) rfl rfl 0 (by decide) rfl rfl hi_X7_bind_RX7 lk_X7_bind_10 dX7_bind_33 ?_
    refine go_cvV1 C (pc := 36) obj_7 (c_X2_remember C.fl C.ok _ q h hC) gX7_bind_X2_remember rfl rfl yok_X2_remember ⟨rfl, rfl⟩ ⟨Nat.le_of_ble_eq_true rfl, Nat.le_of_ble_eq_true rfl⟩ (Nat.le_of_ble_eq_true rfl) ⟨Nat.zero_le _, Nat.zero_le _⟩ dX7_bind_36 (fun μ4 hc4 => ?_)
    obtain ⟨⟨f1, g1, rfl⟩, hC1⟩ := hc4
    refine go_aload0 C (pc := 39) dX7_bind_39 ?_
    refine go_get C (pc := 40) 0 (by decide) rfl rfl 0 (by decide) rfl rfl hi_X7_bind_RX7 lk_X7_bind_10 dX7_bind_40 ?_
    refine go_iload1 C (pc := 43) dX7_bind_43 ?_
    refine go_iload2 C (pc := 44) dX7_bind_44 ?_
    refine go_ciV2 C (pc := 45) obj_1 (c_X5_tie C.fl C.ok _ _ _ ) gX7_bind_X5_tie rfl rfl yok_X5_tie ⟨rfl, rfl⟩ ⟨Nat.le_of_ble_eq_true rfl, Nat.le_of_ble_eq_true rfl⟩ (Nat.le_of_ble_eq_true rfl) ⟨Nat.zero_le _, Nat.zero_le _⟩ dX7_bind_45 (fun r5 μ5 hc5 => ?_)
    obtain ⟨-, hm5⟩ := hc5
    obtain ⟨f2, g2, e2, e3⟩ := CS_tie (μ := mset (mset μ 7 f1) 9 g1) (σ := (n, μ 1 1, μ 3)) (i := i) (j := j) ⟨hc, rfl, rfl⟩ hT (by omega) (by omega)
    rw [e2] at hm5
    subst hm5
    have e4 : tieS i j (n, μ 1 1, μ 3) = (true, (n, μ 1 1, tieE (μ 3) i j)) := if_pos ⟨hi, hj, hne, hb⟩
    rw [e4] at e3
    have e5 : g2 = tieE (μ 3) i j := e3.2.2
    have hT2 := TV_tie (σ := (n, μ 1 1, μ 3)) (i := i) (j := j) hT
    rw [e4] at hT2
    refine go_pop C (pc := 48) rfl dX7_bind_48 ?_
    refine go_aload0 C (pc := 49) dX7_bind_49 ?_
    refine go_get C (pc := 50) 0 (by decide) rfl rfl 0 (by decide) rfl rfl hi_X7_bind_RX7 lk_X7_bind_10 dX7_bind_50 ?_
    subst e5
    refine go_iload1 C (pc := 53) dX7_bind_53 ?_
    refine go_ciV1 C (pc := 54) obj_1 (c_X5_heldN C.fl C.ok _ _ (by omega) (sm_row hT2 (by omega))) gX7_bind_X5_held rfl rfl yok_X5_held ⟨rfl, rfl⟩ ⟨Nat.le_of_ble_eq_true rfl, Nat.le_of_ble_eq_true rfl⟩ (Nat.le_of_ble_eq_true rfl) ⟨Nat.zero_le _, Nat.zero_le _⟩ dX7_bind_54 (fun r6 μ6 hc6 => ?_)
    obtain ⟨rfl, hm6⟩ := hc6
    replace hm6 := hm6.symm
    subst hm6
    exact go_iret C hr dX7_bind_57 (⟨rfl, e3, hC1, (by unfold msT; repeat' (first | exact same_rf | refine same_ms ?_ (by decide)))⟩)
  · exact absurd (bneg h15) (by rw [hb]; decide)

theorem yok_X7_cut : yOK yX7_cut 2 := by unfold yOK; decide +kernel
theorem hi_X7_cut_RX7 : ∀ w ∈ wsX70, w ∈ wsX7_cut := by decide +kernel
theorem lk_X7_cut_10 : Cond.fieldLink RX7 10 "ThornCores" "thicket" "LThornCores$Thicket;" ∈ wsX7_cut := by decide +kernel
theorem lk_X7_cut_26 : Cond.fieldLink RX7 26 "ThornCores" "history" "LThornCores$History;" ∈ wsX7_cut := by decide +kernel
set_option maxRecDepth 20000 in
set_option maxHeartbeats 4000000 in
theorem c_X7_cut {l : Launch} {D : va_G} {ad : Nat → Nat} {cI cL : ClassId} (hfl : l.flags = flags0) (hok : adOK ad) (μ : Mem) {n : Nat} (hc : μ 1 0 = nI n) (hT : TV n (μ 1 1) (μ 3)) (q : Nat) (h : Nat → Nat → Int32) (hC : CH μ q h) (i j : Nat) (hi : i < n) (hj : j < n) (hne : i ≠ j) (hb : bt (μ 3 i) j = true) : CtI l D ad cI cL yX7_cut wsX7_cut (RM 8 133) [.ref (ad 0), .int (nI i), .int (nI j)] μ (fun (r : Int32) (μ' : Mem) => r = nI (ct (untE (μ 3) i j i)) ∧ CSm μ' (n, μ 1 1, untE (μ 3) i j) ∧ CH μ' (remM q) (remH q h (stV (μ 1 0) (μ 1 1) (μ 3))) ∧ same μ μ' [1, 3, 7, 9]) := by
  refine ct_i (cc := cX7_cut) (maxL := 3) (own := RX7) .int hfl hok (by decide) rfl rfl rfl (Nat.le_of_ble_eq_true rfl) (fun p e s m below meth c C hr => ?_)
  refine go_lv (lv' := [some (.ref (ad 0)), some (.int (nI i)), some (.int (nI j))]) rfl ?_
  have hn := hT.1
  refine go_aload0 C (pc := 0) dX7_cut_0 ?_
  refine go_iload1 C (pc := 1) dX7_cut_1 ?_
  refine go_iload2 C (pc := 2) dX7_cut_2 ?_
  refine go_cvV2 C (pc := 3) obj_0 (c_X7_demandTwoPlants C.fl C.ok _ _ _ (by rw [hc]; exact hasB_j hn hi) (by rw [hc]; exact hasB_j hn hj) (fun z => hne (nI_inj3 (by omega) (by omega) z))) gX7_cut_X7_demandTwoPlants rfl rfl yok_X7_demandTwoPlants ⟨rfl, rfl⟩ ⟨Nat.le_of_ble_eq_true rfl, Nat.le_of_ble_eq_true rfl⟩ (Nat.le_of_ble_eq_true rfl) ⟨Nat.zero_le _, Nat.zero_le _⟩ dX7_cut_3 (fun μ1 hc1 => ?_)
  replace hc1 := hc1.symm
  subst hc1
  refine go_aload0 C (pc := 6) dX7_cut_6 ?_
  refine go_get C (pc := 7) 0 (by decide) rfl rfl 0 (by decide) rfl rfl hi_X7_cut_RX7 lk_X7_cut_10 dX7_cut_7 ?_
  refine go_iload1 C (pc := 10) dX7_cut_10 ?_
  refine go_iload2 C (pc := 11) dX7_cut_11 ?_
  refine go_ciV2 C (pc := 12) obj_1 (c_X5_isBoundN C.fl C.ok _ _ _ hc hT (by omega) (by omega)) gX7_cut_X5_isBound rfl rfl yok_X5_isBound ⟨rfl, rfl⟩ ⟨Nat.le_of_ble_eq_true rfl, Nat.le_of_ble_eq_true rfl⟩ (Nat.le_of_ble_eq_true rfl) ⟨Nat.zero_le _, Nat.zero_le _⟩ dX7_cut_12 (fun r2 μ2 hc2 => ?_)
  obtain ⟨rfl, hm2⟩ := hc2
  replace hm2 := hm2.symm
  subst hm2
  refine go_if_ne C (pc := 15) (tgt := 28) dX7_cut_15 (by decide) (fun h15 => ?_) (fun h15 => ?_)
  · refine go_aload0 C (pc := 28) dX7_cut_28 ?_
    refine go_get C (pc := 29) 0 (by decide) rfl rfl 2 (by decide) rfl rfl hi_X7_cut_RX7 lk_X7_cut_26 dX7_cut_29 ?_
    refine go_aload0 C (pc := 32) dX7_cut_32 ?_
    refine go_get C (pc := 33) 0 (by decide) rfl rfl 0 (by decide) rfl rfl hi_X7_cut_RX7 lk_X7_cut_10 dX7_cut_33 ?_
    refine go_cvV1 C (pc := 36) obj_7 (c_X2_remember C.fl C.ok _ q h hC) gX7_cut_X2_remember rfl rfl yok_X2_remember ⟨rfl, rfl⟩ ⟨Nat.le_of_ble_eq_true rfl, Nat.le_of_ble_eq_true rfl⟩ (Nat.le_of_ble_eq_true rfl) ⟨Nat.zero_le _, Nat.zero_le _⟩ dX7_cut_36 (fun μ4 hc4 => ?_)
    obtain ⟨⟨f1, g1, rfl⟩, hC1⟩ := hc4
    refine go_aload0 C (pc := 39) dX7_cut_39 ?_
    refine go_get C (pc := 40) 0 (by decide) rfl rfl 0 (by decide) rfl rfl hi_X7_cut_RX7 lk_X7_cut_10 dX7_cut_40 ?_
    refine go_iload1 C (pc := 43) dX7_cut_43 ?_
    refine go_iload2 C (pc := 44) dX7_cut_44 ?_
    refine go_ciV2 C (pc := 45) obj_1 (c_X5_untie C.fl C.ok _ _ _ ) gX7_cut_X5_untie rfl rfl yok_X5_untie ⟨rfl, rfl⟩ ⟨Nat.le_of_ble_eq_true rfl, Nat.le_of_ble_eq_true rfl⟩ (Nat.le_of_ble_eq_true rfl) ⟨Nat.zero_le _, Nat.zero_le _⟩ dX7_cut_45 (fun r5 μ5 hc5 => ?_)
    obtain ⟨-, hm5⟩ := hc5
    obtain ⟨-, f2, g2, e2, e3⟩ := CS_unt (μ := mset (mset μ 7 f1) 9 g1) (σ := (n, μ 1 1, μ 3)) (i := i) (j := j) ⟨hc, rfl, rfl⟩ hT (by omega) (by omega)
    rw [e2] at hm5
    subst hm5
    have e4 : untS i j (n, μ 1 1, μ 3) = (true, (n, μ 1 1, untE (μ 3) i j)) := if_pos hb
    rw [e4] at e3
    have e5 : g2 = untE (μ 3) i j := e3.2.2
    have hT2 := TV_unt (σ := (n, μ 1 1, μ 3)) (i := i) (j := j) (show i < 16 by omega) hT
    rw [e4] at hT2
    refine go_pop C (pc := 48) rfl dX7_cut_48 ?_
    refine go_aload0 C (pc := 49) dX7_cut_49 ?_
    refine go_get C (pc := 50) 0 (by decide) rfl rfl 0 (by decide) rfl rfl hi_X7_cut_RX7 lk_X7_cut_10 dX7_cut_50 ?_
    subst e5
    refine go_iload1 C (pc := 53) dX7_cut_53 ?_
    refine go_ciV1 C (pc := 54) obj_1 (c_X5_heldN C.fl C.ok _ _ (by omega) (sm_row hT2 (by omega))) gX7_cut_X5_held rfl rfl yok_X5_held ⟨rfl, rfl⟩ ⟨Nat.le_of_ble_eq_true rfl, Nat.le_of_ble_eq_true rfl⟩ (Nat.le_of_ble_eq_true rfl) ⟨Nat.zero_le _, Nat.zero_le _⟩ dX7_cut_54 (fun r6 μ6 hc6 => ?_)
    obtain ⟨rfl, hm6⟩ := hc6
    replace hm6 := hm6.symm
    subst hm6
    exact go_iret C hr dX7_cut_57 (⟨rfl, e3, hC1, (by unfold msT; repeat' (first | exact same_rf | refine same_ms ?_ (by decide)))⟩)
  · exact absurd (bpos h15) (by rw [hb]; decide)

theorem yok_X7_switchProp : yOK yX7_switchProp 1 := by unfold yOK; decide +kernel
theorem hi_X7_switchProp_RX7 : ∀ w ∈ wsX70, w ∈ wsX7_switchProp := by decide +kernel
theorem lk_X7_switchProp_26 : Cond.fieldLink RX7 26 "ThornCores" "history" "LThornCores$History;" ∈ wsX7_switchProp := by decide +kernel
theorem lk_X7_switchProp_10 : Cond.fieldLink RX7 10 "ThornCores" "thicket" "LThornCores$Thicket;" ∈ wsX7_switchProp := by decide +kernel
set_option maxRecDepth 20000 in
set_option maxHeartbeats 4000000 in
theorem c_X7_switchProp {l : Launch} {D : va_G} {ad : Nat → Nat} {cI cL : ClassId} (hfl : l.flags = flags0) (hok : adOK ad) (μ : Mem) {n : Nat} (hc : μ 1 0 = nI n) (hT : TV n (μ 1 1) (μ 3)) (q : Nat) (h : Nat → Nat → Int32) (hC : CH μ q h) (j : Nat) (hj : j < n) : CtI l D ad cI cL yX7_switchProp wsX7_switchProp (RM 7 111) [.ref (ad 0), .int (nI j)] μ (fun (r : Int32) (μ' : Mem) => r = b2i (bt (μ 1 1 ^^^ bitI (nI j)) j) ∧ CSm μ' (n, μ 1 1 ^^^ bitI (nI j), μ 3) ∧ CH μ' (remM q) (remH q h (stV (μ 1 0) (μ 1 1) (μ 3))) ∧ same μ μ' [1, 3, 7, 9]) := by
  refine ct_i (cc := cX7_switchProp) (maxL := 2) (own := RX7) .boolean hfl hok (by decide) rfl rfl rfl (Nat.le_of_ble_eq_true rfl) (fun p e s m below meth c C hr => ?_)
  refine go_lv (lv' := [some (.ref (ad 0)), some (.int (nI j))]) rfl ?_
  have hn := hT.1
  refine go_aload0 C (pc := 0) dX7_switchProp_0 ?_
  refine go_iload1 C (pc := 1) dX7_switchProp_1 ?_
  refine go_cvV1 C (pc := 2) obj_0 (c_X7_demandPlant C.fl C.ok _ _ (by rw [hc]; exact hasB_j hn hj)) gX7_switchProp_X7_demandPlant rfl rfl yok_X7_demandPlant ⟨rfl, rfl⟩ ⟨Nat.le_of_ble_eq_true rfl, Nat.le_of_ble_eq_true rfl⟩ (Nat.le_of_ble_eq_true rfl) ⟨Nat.zero_le _, Nat.zero_le _⟩ dX7_switchProp_2 (fun μ1 hc1 => ?_)
  replace hc1 := hc1.symm
  subst hc1
  refine go_aload0 C (pc := 5) dX7_switchProp_5 ?_
  refine go_get C (pc := 6) 0 (by decide) rfl rfl 2 (by decide) rfl rfl hi_X7_switchProp_RX7 lk_X7_switchProp_26 dX7_switchProp_6 ?_
  refine go_aload0 C (pc := 9) dX7_switchProp_9 ?_
  refine go_get C (pc := 10) 0 (by decide) rfl rfl 0 (by decide) rfl rfl hi_X7_switchProp_RX7 lk_X7_switchProp_10 dX7_switchProp_10 ?_
  refine go_cvV1 C (pc := 13) obj_7 (c_X2_remember C.fl C.ok _ q h hC) gX7_switchProp_X2_remember rfl rfl yok_X2_remember ⟨rfl, rfl⟩ ⟨Nat.le_of_ble_eq_true rfl, Nat.le_of_ble_eq_true rfl⟩ (Nat.le_of_ble_eq_true rfl) ⟨Nat.zero_le _, Nat.zero_le _⟩ dX7_switchProp_13 (fun μ2 hc2 => ?_)
  obtain ⟨⟨f1, g1, rfl⟩, hC1⟩ := hc2
  refine go_aload0 C (pc := 16) dX7_switchProp_16 ?_
  refine go_get C (pc := 17) 0 (by decide) rfl rfl 0 (by decide) rfl rfl hi_X7_switchProp_RX7 lk_X7_switchProp_10 dX7_switchProp_17 ?_
  refine go_iload1 C (pc := 20) dX7_switchProp_20 ?_
  refine go_ciV1 C (pc := 21) obj_1 (c_X5_turnProp C.fl C.ok _ _ ) gX7_switchProp_X5_turnProp rfl rfl yok_X5_turnProp ⟨rfl, rfl⟩ ⟨Nat.le_of_ble_eq_true rfl, Nat.le_of_ble_eq_true rfl⟩ (Nat.le_of_ble_eq_true rfl) ⟨Nat.zero_le _, Nat.zero_le _⟩ dX7_switchProp_21 (fun r3 μ3 hc3 => ?_)
  obtain ⟨-, hm3⟩ := hc3
  obtain ⟨-, f2, g2, e2, e3⟩ := CS_turn (μ := mset (mset μ 7 f1) 9 g1) (σ := (n, μ 1 1, μ 3)) (j := j) ⟨hc, rfl, rfl⟩ hT (by omega)
  rw [e2] at hm3
  subst hm3
  have e4 : turnS j (n, μ 1 1, μ 3) = (true, (n, μ 1 1 ^^^ bitI (nI j), μ 3)) := if_pos hj
  rw [e4] at e3
  have hT2 := TV_turn (σ := (n, μ 1 1, μ 3)) (j := j) hT
  rw [e4] at hT2
  have e6 : f2 0 = nI n := e3.1
  have e7 : f2 1 = μ 1 1 ^^^ bitI (nI j) := e3.2.1
  have e8 : g2 = μ 3 := e3.2.2
  refine go_pop C (pc := 24) rfl dX7_switchProp_24 ?_
  refine go_aload0 C (pc := 25) dX7_switchProp_25 ?_
  refine go_get C (pc := 26) 0 (by decide) rfl rfl 0 (by decide) rfl rfl hi_X7_switchProp_RX7 lk_X7_switchProp_10 dX7_switchProp_26 ?_
  refine go_iload1 C (pc := 29) dX7_switchProp_29 ?_
  refine go_ciV1 C (pc := 30) obj_1 (c_X5_hasPropN C.fl C.ok _ _ e3.1 (show TV n (f2 1) g2 by rw [e7, e8]; exact hT2) (by omega)) gX7_switchProp_X5_hasProp rfl rfl yok_X5_hasProp ⟨rfl, rfl⟩ ⟨Nat.le_of_ble_eq_true rfl, Nat.le_of_ble_eq_true rfl⟩ (Nat.le_of_ble_eq_true rfl) ⟨Nat.zero_le _, Nat.zero_le _⟩ dX7_switchProp_30 (fun r4 μ4 hc4 => ?_)
  obtain ⟨rfl, hm4⟩ := hc4
  replace hm4 := hm4.symm
  subst hm4
  refine go_top (y := b2i (bt (f2 1) j)) rfl ?_
  exact go_zret C hr dX7_switchProp_33 (by first | decide | exact b2i_01 _) (⟨by rw [e7], e3, hC1, (by unfold msT; repeat' (first | exact same_rf | refine same_ms ?_ (by decide)))⟩)

theorem yok_X7_neighbors : yOK yX7_neighbors 1 := by unfold yOK; decide +kernel
theorem hi_X7_neighbors_RX7 : ∀ w ∈ wsX70, w ∈ wsX7_neighbors := by decide +kernel
theorem lk_X7_neighbors_10 : Cond.fieldLink RX7 10 "ThornCores" "thicket" "LThornCores$Thicket;" ∈ wsX7_neighbors := by decide +kernel
set_option maxRecDepth 20000 in
set_option maxHeartbeats 4000000 in
theorem c_X7_neighbors {l : Launch} {D : va_G} {ad : Nat → Nat} {cI cL : ClassId} (hfl : l.flags = flags0) (hok : adOK ad) (μ : Mem) {n : Nat} (hc : μ 1 0 = nI n) (hT : TV n (μ 1 1) (μ 3)) (j : Nat) (hj : j < n) : CtI l D ad cI cL yX7_neighbors wsX7_neighbors (RM 7 111) [.ref (ad 0), .int (nI j)] μ (fun (r : Int32) (μ' : Mem) => r = μ 3 j ∧ μ' = μ) := by
  refine ct_i (cc := cX7_neighbors) (maxL := 2) (own := RX7) .int hfl hok (by decide) rfl rfl rfl (Nat.le_of_ble_eq_true rfl) (fun p e s m below meth c C hr => ?_)
  refine go_lv (lv' := [some (.ref (ad 0)), some (.int (nI j))]) rfl ?_
  have hn := hT.1
  refine go_aload0 C (pc := 0) dX7_neighbors_0 ?_
  refine go_iload1 C (pc := 1) dX7_neighbors_1 ?_
  refine go_cvV1 C (pc := 2) obj_0 (c_X7_demandPlant C.fl C.ok _ _ (by rw [hc]; exact hasB_j hn hj)) gX7_neighbors_X7_demandPlant rfl rfl yok_X7_demandPlant ⟨rfl, rfl⟩ ⟨Nat.le_of_ble_eq_true rfl, Nat.le_of_ble_eq_true rfl⟩ (Nat.le_of_ble_eq_true rfl) ⟨Nat.zero_le _, Nat.zero_le _⟩ dX7_neighbors_2 (fun μ1 hc1 => ?_)
  replace hc1 := hc1.symm
  subst hc1
  refine go_aload0 C (pc := 5) dX7_neighbors_5 ?_
  refine go_get C (pc := 6) 0 (by decide) rfl rfl 0 (by decide) rfl rfl hi_X7_neighbors_RX7 lk_X7_neighbors_10 dX7_neighbors_6 ?_
  refine go_iload1 C (pc := 9) dX7_neighbors_9 ?_
  refine go_ciV1 C (pc := 10) obj_1 (c_X5_aroundN C.fl C.ok _ _ (by omega)) gX7_neighbors_X5_around rfl rfl yok_X5_around ⟨rfl, rfl⟩ ⟨Nat.le_of_ble_eq_true rfl, Nat.le_of_ble_eq_true rfl⟩ (Nat.le_of_ble_eq_true rfl) ⟨Nat.zero_le _, Nat.zero_le _⟩ dX7_neighbors_10 (fun r2 μ2 hc2 => ?_)
  obtain ⟨rfl, hm2⟩ := hc2
  replace hm2 := hm2.symm
  subst hm2
  exact go_iret C hr dX7_neighbors_13 (⟨rfl, rfl⟩)

theorem yok_X7_isPropped : yOK yX7_isPropped 1 := by unfold yOK; decide +kernel
theorem hi_X7_isPropped_RX7 : ∀ w ∈ wsX70, w ∈ wsX7_isPropped := by decide +kernel
theorem lk_X7_isPropped_10 : Cond.fieldLink RX7 10 "ThornCores" "thicket" "LThornCores$Thicket;" ∈ wsX7_isPropped := by decide +kernel
set_option maxRecDepth 20000 in
set_option maxHeartbeats 4000000 in
theorem c_X7_isPropped {l : Launch} {D : va_G} {ad : Nat → Nat} {cI cL : ClassId} (hfl : l.flags = flags0) (hok : adOK ad) (μ : Mem) {n : Nat} (hc : μ 1 0 = nI n) (hT : TV n (μ 1 1) (μ 3)) (j : Nat) (hj : j < n) : CtI l D ad cI cL yX7_isPropped wsX7_isPropped (RM 7 111) [.ref (ad 0), .int (nI j)] μ (fun (r : Int32) (μ' : Mem) => r = b2i (bt (μ 1 1) j) ∧ μ' = μ) := by
  refine ct_i (cc := cX7_isPropped) (maxL := 2) (own := RX7) .boolean hfl hok (by decide) rfl rfl rfl (Nat.le_of_ble_eq_true rfl) (fun p e s m below meth c C hr => ?_)
  refine go_lv (lv' := [some (.ref (ad 0)), some (.int (nI j))]) rfl ?_
  have hn := hT.1
  refine go_aload0 C (pc := 0) dX7_isPropped_0 ?_
  refine go_iload1 C (pc := 1) dX7_isPropped_1 ?_
  refine go_cvV1 C (pc := 2) obj_0 (c_X7_demandPlant C.fl C.ok _ _ (by rw [hc]; exact hasB_j hn hj)) gX7_isPropped_X7_demandPlant rfl rfl yok_X7_demandPlant ⟨rfl, rfl⟩ ⟨Nat.le_of_ble_eq_true rfl, Nat.le_of_ble_eq_true rfl⟩ (Nat.le_of_ble_eq_true rfl) ⟨Nat.zero_le _, Nat.zero_le _⟩ dX7_isPropped_2 (fun μ1 hc1 => ?_)
  replace hc1 := hc1.symm
  subst hc1
  refine go_aload0 C (pc := 5) dX7_isPropped_5 ?_
  refine go_get C (pc := 6) 0 (by decide) rfl rfl 0 (by decide) rfl rfl hi_X7_isPropped_RX7 lk_X7_isPropped_10 dX7_isPropped_6 ?_
  refine go_iload1 C (pc := 9) dX7_isPropped_9 ?_
  refine go_ciV1 C (pc := 10) obj_1 (c_X5_hasPropN C.fl C.ok _ _ hc hT (by omega)) gX7_isPropped_X5_hasProp rfl rfl yok_X5_hasProp ⟨rfl, rfl⟩ ⟨Nat.le_of_ble_eq_true rfl, Nat.le_of_ble_eq_true rfl⟩ (Nat.le_of_ble_eq_true rfl) ⟨Nat.zero_le _, Nat.zero_le _⟩ dX7_isPropped_10 (fun r2 μ2 hc2 => ?_)
  obtain ⟨rfl, hm2⟩ := hc2
  replace hm2 := hm2.symm
  subst hm2
  exact go_zret C hr dX7_isPropped_13 (by first | decide | exact b2i_01 _) (⟨rfl, rfl⟩)

theorem yok_X7_coreOf : yOK yX7_coreOf 1 := by unfold yOK; decide +kernel
theorem hi_X7_coreOf_RX7 : ∀ w ∈ wsX70, w ∈ wsX7_coreOf := by decide +kernel
theorem lk_X7_coreOf_48 : Cond.fieldLink RX7 48 "ThornCores" "cores" "LThornCores$Cores;" ∈ wsX7_coreOf := by decide +kernel
set_option maxRecDepth 20000 in
set_option maxHeartbeats 4000000 in
theorem c_X7_coreOf {l : Launch} {D : va_G} {ad : Nat → Nat} {cI cL : ClassId} (hfl : l.flags = flags0) (hok : adOK ad) (μ : Mem) {n : Nat} (hc : μ 1 0 = nI n) (hT : TV n (μ 1 1) (μ 3)) (j : Nat) (hj : j < n) : CtI l D ad cI cL yX7_coreOf wsX7_coreOf (RM 7 115) [.ref (ad 0), .int (nI j)] μ (fun (r : Int32) (μ' : Mem) => r = nI (coreN (μ 3) (μ 1 1) n j) ∧ μ' = μ) := by
  refine ct_i (cc := cX7_coreOf) (maxL := 2) (own := RX7) .int hfl hok (by decide) rfl rfl rfl (Nat.le_of_ble_eq_true rfl) (fun p e s m below meth c C hr => ?_)
  refine go_lv (lv' := [some (.ref (ad 0)), some (.int (nI j))]) rfl ?_
  have hn := hT.1
  refine go_aload0 C (pc := 0) dX7_coreOf_0 ?_
  refine go_iload1 C (pc := 1) dX7_coreOf_1 ?_
  refine go_cvV1 C (pc := 2) obj_0 (c_X7_demandPlant C.fl C.ok _ _ (by rw [hc]; exact hasB_j hn hj)) gX7_coreOf_X7_demandPlant rfl rfl yok_X7_demandPlant ⟨rfl, rfl⟩ ⟨Nat.le_of_ble_eq_true rfl, Nat.le_of_ble_eq_true rfl⟩ (Nat.le_of_ble_eq_true rfl) ⟨Nat.zero_le _, Nat.zero_le _⟩ dX7_coreOf_2 (fun μ1 hc1 => ?_)
  replace hc1 := hc1.symm
  subst hc1
  refine go_aload0 C (pc := 5) dX7_coreOf_5 ?_
  refine go_get C (pc := 6) 0 (by decide) rfl rfl 5 (by decide) rfl rfl hi_X7_coreOf_RX7 lk_X7_coreOf_48 dX7_coreOf_6 ?_
  refine go_iload1 C (pc := 9) dX7_coreOf_9 ?_
  refine go_ciV1 C (pc := 10) obj_12 (c_X0_numberByPeeling C.fl C.ok _ _ hc hT (by omega)) gX7_coreOf_X0_numberByPeeling rfl rfl yok_X0_numberByPeeling ⟨rfl, rfl⟩ ⟨Nat.le_of_ble_eq_true rfl, Nat.le_of_ble_eq_true rfl⟩ (Nat.le_of_ble_eq_true rfl) ⟨Nat.zero_le _, Nat.zero_le _⟩ dX7_coreOf_10 (fun r2 μ2 hc2 => ?_)
  obtain ⟨rfl, hm2⟩ := hc2
  replace hm2 := hm2.symm
  subst hm2
  exact go_iret C hr dX7_coreOf_13 (⟨rfl, rfl⟩)

theorem yok_X7_coreByRounds : yOK yX7_coreByRounds 1 := by unfold yOK; decide +kernel
theorem hi_X7_coreByRounds_RX7 : ∀ w ∈ wsX70, w ∈ wsX7_coreByRounds := by decide +kernel
theorem lk_X7_coreByRounds_48 : Cond.fieldLink RX7 48 "ThornCores" "cores" "LThornCores$Cores;" ∈ wsX7_coreByRounds := by decide +kernel
set_option maxRecDepth 20000 in
set_option maxHeartbeats 4000000 in
theorem c_X7_coreByRounds {l : Launch} {D : va_G} {ad : Nat → Nat} {cI cL : ClassId} (hfl : l.flags = flags0) (hok : adOK ad) (μ : Mem) {n : Nat} (hc : μ 1 0 = nI n) (hT : TV n (μ 1 1) (μ 3)) (j : Nat) (hj : j < n) : CtI l D ad cI cL yX7_coreByRounds wsX7_coreByRounds (RM 7 134) [.ref (ad 0), .int (nI j)] μ (fun (r : Int32) (μ' : Mem) => r = nI (coreN (μ 3) (μ 1 1) n j) ∧ ∃ F, μ' = mset μ 14 F) := by
  refine ct_i (cc := cX7_coreByRounds) (maxL := 2) (own := RX7) .int hfl hok (by decide) rfl rfl rfl (Nat.le_of_ble_eq_true rfl) (fun p e s m below meth c C hr => ?_)
  refine go_lv (lv' := [some (.ref (ad 0)), some (.int (nI j))]) rfl ?_
  have hn := hT.1
  refine go_aload0 C (pc := 0) dX7_coreByRounds_0 ?_
  refine go_iload1 C (pc := 1) dX7_coreByRounds_1 ?_
  refine go_cvV1 C (pc := 2) obj_0 (c_X7_demandPlant C.fl C.ok _ _ (by rw [hc]; exact hasB_j hn hj)) gX7_coreByRounds_X7_demandPlant rfl rfl yok_X7_demandPlant ⟨rfl, rfl⟩ ⟨Nat.le_of_ble_eq_true rfl, Nat.le_of_ble_eq_true rfl⟩ (Nat.le_of_ble_eq_true rfl) ⟨Nat.zero_le _, Nat.zero_le _⟩ dX7_coreByRounds_2 (fun μ1 hc1 => ?_)
  replace hc1 := hc1.symm
  subst hc1
  refine go_aload0 C (pc := 5) dX7_coreByRounds_5 ?_
  refine go_get C (pc := 6) 0 (by decide) rfl rfl 5 (by decide) rfl rfl hi_X7_coreByRounds_RX7 lk_X7_coreByRounds_48 dX7_coreByRounds_6 ?_
  refine go_iload1 C (pc := 9) dX7_coreByRounds_9 ?_
  refine go_ciV1 C (pc := 10) obj_12 (c_X0_numberByRounds C.fl C.ok _ _ hc hT hj) gX7_coreByRounds_X0_numberByRounds rfl rfl yok_X0_numberByRounds ⟨rfl, rfl⟩ ⟨Nat.le_of_ble_eq_true rfl, Nat.le_of_ble_eq_true rfl⟩ (Nat.le_of_ble_eq_true rfl) ⟨Nat.zero_le _, Nat.zero_le _⟩ dX7_coreByRounds_10 (fun r2 μ2 hc2 => ?_)
  obtain ⟨rfl, F, rfl⟩ := hc2
  exact go_iret C hr dX7_coreByRounds_13 (⟨rfl, F, rfl⟩)

theorem yok_X7_placeOf : yOK yX7_placeOf 1 := by unfold yOK; decide +kernel
theorem hi_X7_placeOf_RX7 : ∀ w ∈ wsX70, w ∈ wsX7_placeOf := by decide +kernel
theorem lk_X7_placeOf_62 : Cond.fieldLink RX7 62 "ThornCores" "falling" "LThornCores$Falling;" ∈ wsX7_placeOf := by decide +kernel
set_option maxRecDepth 20000 in
set_option maxHeartbeats 4000000 in
theorem c_X7_placeOf {l : Launch} {D : va_G} {ad : Nat → Nat} {cI cL : ClassId} (hfl : l.flags = flags0) (hok : adOK ad) (μ : Mem) {n : Nat} (hc : μ 1 0 = nI n) (hT : TV n (μ 1 1) (μ 3)) (j : Nat) (hj : j < n) : CtI l D ad cI cL yX7_placeOf wsX7_placeOf (RM 7 114) [.ref (ad 0), .int (nI j)] μ (fun (r : Int32) (μ' : Mem) => (∃ x, r = nI x ∧ x < n ∧ ordN (μ 3) (μ 1 1) n x = j ∧ ∀ y, y < x → ordN (μ 3) (μ 1 1) n y ≠ j) ∧ ∃ F, μ' = mset μ 22 F) := by
  refine ct_i (cc := cX7_placeOf) (maxL := 2) (own := RX7) .int hfl hok (by decide) rfl rfl rfl (Nat.le_of_ble_eq_true rfl) (fun p e s m below meth c C hr => ?_)
  refine go_lv (lv' := [some (.ref (ad 0)), some (.int (nI j))]) rfl ?_
  have hn := hT.1
  refine go_aload0 C (pc := 0) dX7_placeOf_0 ?_
  refine go_iload1 C (pc := 1) dX7_placeOf_1 ?_
  refine go_cvV1 C (pc := 2) obj_0 (c_X7_demandPlant C.fl C.ok _ _ (by rw [hc]; exact hasB_j hn hj)) gX7_placeOf_X7_demandPlant rfl rfl yok_X7_demandPlant ⟨rfl, rfl⟩ ⟨Nat.le_of_ble_eq_true rfl, Nat.le_of_ble_eq_true rfl⟩ (Nat.le_of_ble_eq_true rfl) ⟨Nat.zero_le _, Nat.zero_le _⟩ dX7_placeOf_2 (fun μ1 hc1 => ?_)
  replace hc1 := hc1.symm
  subst hc1
  refine go_aload0 C (pc := 5) dX7_placeOf_5 ?_
  refine go_get C (pc := 6) 0 (by decide) rfl rfl 7 (by decide) rfl rfl hi_X7_placeOf_RX7 lk_X7_placeOf_62 dX7_placeOf_6 ?_
  refine go_iload1 C (pc := 9) dX7_placeOf_9 ?_
  refine go_ciV1 C (pc := 10) obj_20 (c_X1_place C.fl C.ok _ _ hc hT hj) gX7_placeOf_X1_place rfl rfl yok_X1_place ⟨rfl, rfl⟩ ⟨Nat.le_of_ble_eq_true rfl, Nat.le_of_ble_eq_true rfl⟩ (Nat.le_of_ble_eq_true rfl) ⟨Nat.zero_le _, Nat.zero_le _⟩ dX7_placeOf_10 (fun r2 μ2 hc2 => ?_)
  obtain ⟨hx1, F, rfl⟩ := hc2
  exact go_iret C hr dX7_placeOf_13 (⟨hx1, F, rfl⟩)

theorem yok_X7_colorOf : yOK yX7_colorOf 1 := by unfold yOK; decide +kernel
theorem hi_X7_colorOf_RX7 : ∀ w ∈ wsX70, w ∈ wsX7_colorOf := by decide +kernel
theorem lk_X7_colorOf_62 : Cond.fieldLink RX7 62 "ThornCores" "falling" "LThornCores$Falling;" ∈ wsX7_colorOf := by decide +kernel
set_option maxRecDepth 20000 in
set_option maxHeartbeats 4000000 in
theorem c_X7_colorOf {l : Launch} {D : va_G} {ad : Nat → Nat} {cI cL : ClassId} (hfl : l.flags = flags0) (hok : adOK ad) (μ : Mem) {n : Nat} (hc : μ 1 0 = nI n) (hT : TV n (μ 1 1) (μ 3)) (j : Nat) (hj : j < n) : CtI l D ad cI cL yX7_colorOf wsX7_colorOf (RM 7 136) [.ref (ad 0), .int (nI j)] μ (fun (r : Int32) (μ' : Mem) => r = nI (colN (μ 3) (μ 1 1) n j) ∧ ∃ F G, μ' = mset (mset μ 22 F) 24 G) := by
  refine ct_i (cc := cX7_colorOf) (maxL := 2) (own := RX7) .int hfl hok (by decide) rfl rfl rfl (Nat.le_of_ble_eq_true rfl) (fun p e s m below meth c C hr => ?_)
  refine go_lv (lv' := [some (.ref (ad 0)), some (.int (nI j))]) rfl ?_
  have hn := hT.1
  refine go_aload0 C (pc := 0) dX7_colorOf_0 ?_
  refine go_iload1 C (pc := 1) dX7_colorOf_1 ?_
  refine go_cvV1 C (pc := 2) obj_0 (c_X7_demandPlant C.fl C.ok _ _ (by rw [hc]; exact hasB_j hn hj)) gX7_colorOf_X7_demandPlant rfl rfl yok_X7_demandPlant ⟨rfl, rfl⟩ ⟨Nat.le_of_ble_eq_true rfl, Nat.le_of_ble_eq_true rfl⟩ (Nat.le_of_ble_eq_true rfl) ⟨Nat.zero_le _, Nat.zero_le _⟩ dX7_colorOf_2 (fun μ1 hc1 => ?_)
  replace hc1 := hc1.symm
  subst hc1
  refine go_aload0 C (pc := 5) dX7_colorOf_5 ?_
  refine go_get C (pc := 6) 0 (by decide) rfl rfl 7 (by decide) rfl rfl hi_X7_colorOf_RX7 lk_X7_colorOf_62 dX7_colorOf_6 ?_
  refine go_iload1 C (pc := 9) dX7_colorOf_9 ?_
  refine go_ciV1 C (pc := 10) obj_20 (c_X1_color C.fl C.ok _ _ hc hT hj) gX7_colorOf_X1_color rfl rfl yok_X1_color ⟨rfl, rfl⟩ ⟨Nat.le_of_ble_eq_true rfl, Nat.le_of_ble_eq_true rfl⟩ (Nat.le_of_ble_eq_true rfl) ⟨Nat.zero_le _, Nat.zero_le _⟩ dX7_colorOf_10 (fun r2 μ2 hc2 => ?_)
  obtain ⟨rfl, F, G, rfl⟩ := hc2
  exact go_iret C hr dX7_colorOf_13 (⟨rfl, F, G, rfl⟩)

theorem yok_X7_core : yOK yX7_core 1 := by unfold yOK; decide +kernel
theorem hi_X7_core_RX7 : ∀ w ∈ wsX70, w ∈ wsX7_core := by decide +kernel
theorem lk_X7_core_48 : Cond.fieldLink RX7 48 "ThornCores" "cores" "LThornCores$Cores;" ∈ wsX7_core := by decide +kernel
theorem lk_X7_core_10 : Cond.fieldLink RX7 10 "ThornCores" "thicket" "LThornCores$Thicket;" ∈ wsX7_core := by decide +kernel
theorem hi_X7_core_RX5 : ∀ w ∈ wsX50, w ∈ wsX7_core := by decide +kernel
set_option maxRecDepth 20000 in
set_option maxHeartbeats 4000000 in
theorem c_X7_core {l : Launch} {D : va_G} {ad : Nat → Nat} {cI cL : ClassId} (hfl : l.flags = flags0) (hok : adOK ad) (μ : Mem) {n : Nat} (hc : μ 1 0 = nI n) (hT : TV n (μ 1 1) (μ 3)) (k : Nat) (hk : k ≤ 15) : CtI l D ad cI cL yX7_core wsX7_core (RM 7 111) [.ref (ad 0), .int (nI k)] μ (fun (r : Int32) (μ' : Mem) => r = coreI (μ 3) (μ 1 1) k (allI n) ∧ μ' = μ) := by
  refine ct_i (cc := cX7_core) (maxL := 2) (own := RX7) .int hfl hok (by decide) rfl rfl rfl (Nat.le_of_ble_eq_true rfl) (fun p e s m below meth c C hr => ?_)
  refine go_lv (lv' := [some (.ref (ad 0)), some (.int (nI k))]) rfl ?_
  have hn := hT.1
  refine go_aload0 C (pc := 0) dX7_core_0 ?_
  refine go_iload1 C (pc := 1) dX7_core_1 ?_
  refine go_cvV1 C (pc := 2) obj_0 (c_X7_demandK C.fl C.ok _ _ (by omega)) gX7_core_X7_demandK rfl rfl yok_X7_demandK ⟨rfl, rfl⟩ ⟨Nat.le_of_ble_eq_true rfl, Nat.le_of_ble_eq_true rfl⟩ (Nat.le_of_ble_eq_true rfl) ⟨Nat.zero_le _, Nat.zero_le _⟩ dX7_core_2 (fun μ1 hc1 => ?_)
  replace hc1 := hc1.symm
  subst hc1
  refine go_aload0 C (pc := 5) dX7_core_5 ?_
  refine go_get C (pc := 6) 0 (by decide) rfl rfl 5 (by decide) rfl rfl hi_X7_core_RX7 lk_X7_core_48 dX7_core_6 ?_
  refine go_aload0 C (pc := 9) dX7_core_9 ?_
  refine go_get C (pc := 10) 0 (by decide) rfl rfl 0 (by decide) rfl rfl hi_X7_core_RX7 lk_X7_core_10 dX7_core_10 ?_
  refine go_ciV0 C (pc := 13) obj_1 (c_X5_plantsN C.fl C.ok _ hc) gX7_core_X5_plants rfl rfl yok_X5_plants ⟨rfl, rfl⟩ ⟨Nat.le_of_ble_eq_true rfl, Nat.le_of_ble_eq_true rfl⟩ (Nat.le_of_ble_eq_true rfl) ⟨Nat.zero_le _, Nat.zero_le _⟩ dX7_core_13 (fun r2 μ2 hc2 => ?_)
  obtain ⟨rfl, hm2⟩ := hc2
  replace hm2 := hm2.symm
  subst hm2
  refine go_aload0 C (pc := 16) dX7_core_16 ?_
  refine go_get C (pc := 17) 0 (by decide) rfl rfl 0 (by decide) rfl rfl hi_X7_core_RX7 lk_X7_core_10 dX7_core_17 ?_
  refine go_getN C (pc := 20) 1 (by decide) rfl rfl 1 (by decide) rfl rfl hi_X7_core_RX5 (host := "ThornCores") (by decide +kernel) dX7_core_20 ?_
  refine go_iload1 C (pc := 23) dX7_core_23 ?_
  refine go_ciV3 C (pc := 24) obj_12 (c_X0_left C.fl C.ok _ _ _ _ hc hT (sm_all hn) (by omega)) gX7_core_X0_left rfl rfl yok_X0_left ⟨rfl, rfl⟩ ⟨Nat.le_of_ble_eq_true rfl, Nat.le_of_ble_eq_true rfl⟩ (Nat.le_of_ble_eq_true rfl) ⟨Nat.zero_le _, Nat.zero_le _⟩ dX7_core_24 (fun r3 μ3 hc3 => ?_)
  obtain ⟨rfl, hm3⟩ := hc3
  replace hm3 := hm3.symm
  subst hm3
  exact go_iret C hr dX7_core_27 (⟨rfl, rfl⟩)

theorem yok_X7_corePieces : yOK yX7_corePieces 1 := by unfold yOK; decide +kernel
theorem hi_X7_corePieces_RX7 : ∀ w ∈ wsX70, w ∈ wsX7_corePieces := by decide +kernel
theorem lk_X7_corePieces_48 : Cond.fieldLink RX7 48 "ThornCores" "cores" "LThornCores$Cores;" ∈ wsX7_corePieces := by decide +kernel
theorem lk_X7_corePieces_10 : Cond.fieldLink RX7 10 "ThornCores" "thicket" "LThornCores$Thicket;" ∈ wsX7_corePieces := by decide +kernel
theorem hi_X7_corePieces_RX5 : ∀ w ∈ wsX50, w ∈ wsX7_corePieces := by decide +kernel
set_option maxRecDepth 20000 in
set_option maxHeartbeats 4000000 in
theorem c_X7_corePieces {l : Launch} {D : va_G} {ad : Nat → Nat} {cI cL : ClassId} (hfl : l.flags = flags0) (hok : adOK ad) (μ : Mem) {n : Nat} (hc : μ 1 0 = nI n) (hT : TV n (μ 1 1) (μ 3)) (k : Nat) (hk : k ≤ 15) : CtI l D ad cI cL yX7_corePieces wsX7_corePieces (RM 7 111) [.ref (ad 0), .int (nI k)] μ (fun (r : Int32) (μ' : Mem) => r = nI (piecesI (μ 3) (coreI (μ 3) (μ 1 1) k (allI n)) 16).1 ∧ μ' = μ) := by
  refine ct_i (cc := cX7_corePieces) (maxL := 2) (own := RX7) .int hfl hok (by decide) rfl rfl rfl (Nat.le_of_ble_eq_true rfl) (fun p e s m below meth c C hr => ?_)
  refine go_lv (lv' := [some (.ref (ad 0)), some (.int (nI k))]) rfl ?_
  have hn := hT.1
  refine go_aload0 C (pc := 0) dX7_corePieces_0 ?_
  refine go_iload1 C (pc := 1) dX7_corePieces_1 ?_
  refine go_cvV1 C (pc := 2) obj_0 (c_X7_demandK C.fl C.ok _ _ (by omega)) gX7_corePieces_X7_demandK rfl rfl yok_X7_demandK ⟨rfl, rfl⟩ ⟨Nat.le_of_ble_eq_true rfl, Nat.le_of_ble_eq_true rfl⟩ (Nat.le_of_ble_eq_true rfl) ⟨Nat.zero_le _, Nat.zero_le _⟩ dX7_corePieces_2 (fun μ1 hc1 => ?_)
  replace hc1 := hc1.symm
  subst hc1
  refine go_aload0 C (pc := 5) dX7_corePieces_5 ?_
  refine go_get C (pc := 6) 0 (by decide) rfl rfl 5 (by decide) rfl rfl hi_X7_corePieces_RX7 lk_X7_corePieces_48 dX7_corePieces_6 ?_
  refine go_aload0 C (pc := 9) dX7_corePieces_9 ?_
  refine go_get C (pc := 10) 0 (by decide) rfl rfl 5 (by decide) rfl rfl hi_X7_corePieces_RX7 lk_X7_corePieces_48 dX7_corePieces_10 ?_
  refine go_aload0 C (pc := 13) dX7_corePieces_13 ?_
  refine go_get C (pc := 14) 0 (by decide) rfl rfl 0 (by decide) rfl rfl hi_X7_corePieces_RX7 lk_X7_corePieces_10 dX7_corePieces_14 ?_
  refine go_ciV0 C (pc := 17) obj_1 (c_X5_plantsN C.fl C.ok _ hc) gX7_corePieces_X5_plants rfl rfl yok_X5_plants ⟨rfl, rfl⟩ ⟨Nat.le_of_ble_eq_true rfl, Nat.le_of_ble_eq_true rfl⟩ (Nat.le_of_ble_eq_true rfl) ⟨Nat.zero_le _, Nat.zero_le _⟩ dX7_corePieces_17 (fun r2 μ2 hc2 => ?_)
  obtain ⟨rfl, hm2⟩ := hc2
  replace hm2 := hm2.symm
  subst hm2
  refine go_aload0 C (pc := 20) dX7_corePieces_20 ?_
  refine go_get C (pc := 21) 0 (by decide) rfl rfl 0 (by decide) rfl rfl hi_X7_corePieces_RX7 lk_X7_corePieces_10 dX7_corePieces_21 ?_
  refine go_getN C (pc := 24) 1 (by decide) rfl rfl 1 (by decide) rfl rfl hi_X7_corePieces_RX5 (host := "ThornCores") (by decide +kernel) dX7_corePieces_24 ?_
  refine go_iload1 C (pc := 27) dX7_corePieces_27 ?_
  refine go_ciV3 C (pc := 28) obj_12 (c_X0_left C.fl C.ok _ _ _ _ hc hT (sm_all hn) (by omega)) gX7_corePieces_X0_left rfl rfl yok_X0_left ⟨rfl, rfl⟩ ⟨Nat.le_of_ble_eq_true rfl, Nat.le_of_ble_eq_true rfl⟩ (Nat.le_of_ble_eq_true rfl) ⟨Nat.zero_le _, Nat.zero_le _⟩ dX7_corePieces_28 (fun r3 μ3 hc3 => ?_)
  obtain ⟨rfl, hm3⟩ := hc3
  replace hm3 := hm3.symm
  subst hm3
  refine go_ciV1 C (pc := 31) obj_12 (c_X0_pieces C.fl C.ok _ _ hc hT) gX7_corePieces_X0_pieces rfl rfl yok_X0_pieces ⟨rfl, rfl⟩ ⟨Nat.le_of_ble_eq_true rfl, Nat.le_of_ble_eq_true rfl⟩ (Nat.le_of_ble_eq_true rfl) ⟨Nat.zero_le _, Nat.zero_le _⟩ dX7_corePieces_31 (fun r4 μ4 hc4 => ?_)
  obtain ⟨rfl, hm4⟩ := hc4
  replace hm4 := hm4.symm
  subst hm4
  exact go_iret C hr dX7_corePieces_34 (⟨rfl, rfl⟩)

theorem yok_X7_trussSize : yOK yX7_trussSize 1 := by unfold yOK; decide +kernel
theorem hi_X7_trussSize_RX7 : ∀ w ∈ wsX70, w ∈ wsX7_trussSize := by decide +kernel
theorem lk_X7_trussSize_55 : Cond.fieldLink RX7 55 "ThornCores" "trusses" "LThornCores$Trusses;" ∈ wsX7_trussSize := by decide +kernel
set_option maxRecDepth 20000 in
set_option maxHeartbeats 4000000 in
theorem c_X7_trussSize {l : Launch} {D : va_G} {ad : Nat → Nat} {cI cL : ClassId} (hfl : l.flags = flags0) (hok : adOK ad) (μ : Mem) {n : Nat} (hc : μ 1 0 = nI n) (hT : TV n (μ 1 1) (μ 3)) (k : Nat) (hk : k ≤ 15) : CtI l D ad cI cL yX7_trussSize wsX7_trussSize (RM 7 111) [.ref (ad 0), .int (nI k)] μ (fun (r : Int32) (μ' : Mem) => r = trS (μ 3) n k ∧ ∃ F, μ' = mset μ 17 F) := by
  refine ct_i (cc := cX7_trussSize) (maxL := 2) (own := RX7) .int hfl hok (by decide) rfl rfl rfl (Nat.le_of_ble_eq_true rfl) (fun p e s m below meth c C hr => ?_)
  refine go_lv (lv' := [some (.ref (ad 0)), some (.int (nI k))]) rfl ?_
  have hn := hT.1
  refine go_aload0 C (pc := 0) dX7_trussSize_0 ?_
  refine go_iload1 C (pc := 1) dX7_trussSize_1 ?_
  refine go_cvV1 C (pc := 2) obj_0 (c_X7_demandK C.fl C.ok _ _ (by omega)) gX7_trussSize_X7_demandK rfl rfl yok_X7_demandK ⟨rfl, rfl⟩ ⟨Nat.le_of_ble_eq_true rfl, Nat.le_of_ble_eq_true rfl⟩ (Nat.le_of_ble_eq_true rfl) ⟨Nat.zero_le _, Nat.zero_le _⟩ dX7_trussSize_2 (fun μ1 hc1 => ?_)
  replace hc1 := hc1.symm
  subst hc1
  refine go_aload0 C (pc := 5) dX7_trussSize_5 ?_
  refine go_get C (pc := 6) 0 (by decide) rfl rfl 6 (by decide) rfl rfl hi_X7_trussSize_RX7 lk_X7_trussSize_55 dX7_trussSize_6 ?_
  refine go_iload1 C (pc := 9) dX7_trussSize_9 ?_
  refine go_ciV1 C (pc := 10) obj_15 (c_X6_size C.fl C.ok _ _ hc hT hk) gX7_trussSize_X6_size rfl rfl yok_X6_size ⟨rfl, rfl⟩ ⟨Nat.le_of_ble_eq_true rfl, Nat.le_of_ble_eq_true rfl⟩ (Nat.le_of_ble_eq_true rfl) ⟨Nat.zero_le _, Nat.zero_le _⟩ dX7_trussSize_10 (fun r2 μ2 hc2 => ?_)
  obtain ⟨rfl, F, rfl⟩ := hc2
  exact go_iret C hr dX7_trussSize_13 (⟨rfl, F, rfl⟩)

theorem yok_X7_bestProp : yOK yX7_bestProp 1 := by unfold yOK; decide +kernel
theorem hi_X7_bestProp_RX7 : ∀ w ∈ wsX70, w ∈ wsX7_bestProp := by decide +kernel
theorem lk_X7_bestProp_10 : Cond.fieldLink RX7 10 "ThornCores" "thicket" "LThornCores$Thicket;" ∈ wsX7_bestProp := by decide +kernel
theorem hi_X7_bestProp_RX5 : ∀ w ∈ wsX50, w ∈ wsX7_bestProp := by decide +kernel
theorem lk_X7_bestProp_48 : Cond.fieldLink RX7 48 "ThornCores" "cores" "LThornCores$Cores;" ∈ wsX7_bestProp := by decide +kernel
set_option maxRecDepth 20000 in
set_option maxHeartbeats 4000000 in
theorem c_X7_bestProp {l : Launch} {D : va_G} {ad : Nat → Nat} {cI cL : ClassId} (hfl : l.flags = flags0) (hok : adOK ad) (μ : Mem) {n : Nat} (hc : μ 1 0 = nI n) (hT : TV n (μ 1 1) (μ 3)) (k : Nat) (hk : k ≤ 15) (hne : μ 1 1 ≠ allI n) : CtI l D ad cI cL yX7_bestProp wsX7_bestProp (RM 7 118) [.ref (ad 0), .int (nI k)] μ (fun (r : Int32) (μ' : Mem) => r = nI (bestI (μ 3) (μ 1 1) n k n).1 ∧ μ' = μ) := by
  refine ct_i (cc := cX7_bestProp) (maxL := 2) (own := RX7) .int hfl hok (by decide) rfl rfl rfl (Nat.le_of_ble_eq_true rfl) (fun p e s m below meth c C hr => ?_)
  refine go_lv (lv' := [some (.ref (ad 0)), some (.int (nI k))]) rfl ?_
  have hn := hT.1
  refine go_aload0 C (pc := 0) dX7_bestProp_0 ?_
  refine go_iload1 C (pc := 1) dX7_bestProp_1 ?_
  refine go_cvV1 C (pc := 2) obj_0 (c_X7_demandK C.fl C.ok _ _ (by omega)) gX7_bestProp_X7_demandK rfl rfl yok_X7_demandK ⟨rfl, rfl⟩ ⟨Nat.le_of_ble_eq_true rfl, Nat.le_of_ble_eq_true rfl⟩ (Nat.le_of_ble_eq_true rfl) ⟨Nat.zero_le _, Nat.zero_le _⟩ dX7_bestProp_2 (fun μ1 hc1 => ?_)
  replace hc1 := hc1.symm
  subst hc1
  refine go_aload0 C (pc := 5) dX7_bestProp_5 ?_
  refine go_get C (pc := 6) 0 (by decide) rfl rfl 0 (by decide) rfl rfl hi_X7_bestProp_RX7 lk_X7_bestProp_10 dX7_bestProp_6 ?_
  refine go_getN C (pc := 9) 1 (by decide) rfl rfl 1 (by decide) rfl rfl hi_X7_bestProp_RX5 (host := "ThornCores") (by decide +kernel) dX7_bestProp_9 ?_
  refine go_aload0 C (pc := 12) dX7_bestProp_12 ?_
  refine go_get C (pc := 13) 0 (by decide) rfl rfl 0 (by decide) rfl rfl hi_X7_bestProp_RX7 lk_X7_bestProp_10 dX7_bestProp_13 ?_
  refine go_ciV0 C (pc := 16) obj_1 (c_X5_plantsN C.fl C.ok _ hc) gX7_bestProp_X5_plants rfl rfl yok_X5_plants ⟨rfl, rfl⟩ ⟨Nat.le_of_ble_eq_true rfl, Nat.le_of_ble_eq_true rfl⟩ (Nat.le_of_ble_eq_true rfl) ⟨Nat.zero_le _, Nat.zero_le _⟩ dX7_bestProp_16 (fun r2 μ2 hc2 => ?_)
  obtain ⟨rfl, hm2⟩ := hc2
  replace hm2 := hm2.symm
  subst hm2
  refine go_icmp_ne C (pc := 19) (tgt := 32) dX7_bestProp_19 (by decide) (fun h19 => ?_) (fun h19 => ?_)
  · refine go_aload0 C (pc := 32) dX7_bestProp_32 ?_
    refine go_get C (pc := 33) 0 (by decide) rfl rfl 5 (by decide) rfl rfl hi_X7_bestProp_RX7 lk_X7_bestProp_48 dX7_bestProp_33 ?_
    refine go_iload1 C (pc := 36) dX7_bestProp_36 ?_
    refine go_ciV1 C (pc := 37) obj_12 (c_X0_bestToProp C.fl C.ok _ _ hc hT hk) gX7_bestProp_X0_bestToProp rfl rfl yok_X0_bestToProp ⟨rfl, rfl⟩ ⟨Nat.le_of_ble_eq_true rfl, Nat.le_of_ble_eq_true rfl⟩ (Nat.le_of_ble_eq_true rfl) ⟨Nat.zero_le _, Nat.zero_le _⟩ dX7_bestProp_37 (fun r4 μ4 hc4 => ?_)
    obtain ⟨rfl, hm4⟩ := hc4
    replace hm4 := hm4.symm
    subst hm4
    exact go_iret C hr dX7_bestProp_40 (⟨rfl, rfl⟩)
  · exact absurd h19 hne

theorem yok_X7_wouldFall : yOK yX7_wouldFall 2 := by unfold yOK; decide +kernel
theorem hi_X7_wouldFall_RX7 : ∀ w ∈ wsX70, w ∈ wsX7_wouldFall := by decide +kernel
theorem lk_X7_wouldFall_48 : Cond.fieldLink RX7 48 "ThornCores" "cores" "LThornCores$Cores;" ∈ wsX7_wouldFall := by decide +kernel
theorem lk_X7_wouldFall_10 : Cond.fieldLink RX7 10 "ThornCores" "thicket" "LThornCores$Thicket;" ∈ wsX7_wouldFall := by decide +kernel
theorem hi_X7_wouldFall_RX5 : ∀ w ∈ wsX50, w ∈ wsX7_wouldFall := by decide +kernel
set_option maxRecDepth 20000 in
set_option maxHeartbeats 4000000 in
theorem c_X7_wouldFall {l : Launch} {D : va_G} {ad : Nat → Nat} {cI cL : ClassId} (hfl : l.flags = flags0) (hok : adOK ad) (μ : Mem) {n : Nat} (hc : μ 1 0 = nI n) (hT : TV n (μ 1 1) (μ 3)) (j k : Nat) (hj : j < n) (hk : k ≤ 15) : CtI l D ad cI cL yX7_wouldFall wsX7_wouldFall (RM 7 111) [.ref (ad 0), .int (nI j), .int (nI k)] μ (fun (r : Int32) (μ' : Mem) => r = nI (ct (coreI (μ 3) (μ 1 1) k (allI n) &&& (coreI (μ 3) (μ 1 1) k (allI n &&& (bitI (nI j) ^^^ (-1))) ^^^ (-1)))) ∧ μ' = μ) := by
  refine ct_i (cc := cX7_wouldFall) (maxL := 5) (own := RX7) .int hfl hok (by decide) rfl rfl rfl (Nat.le_of_ble_eq_true rfl) (fun p e s m below meth c C hr => ?_)
  refine go_lv (lv' := [some (.ref (ad 0)), some (.int (nI j)), some (.int (nI k)), none, none]) rfl ?_
  have hn := hT.1
  refine go_aload0 C (pc := 0) dX7_wouldFall_0 ?_
  refine go_iload1 C (pc := 1) dX7_wouldFall_1 ?_
  refine go_cvV1 C (pc := 2) obj_0 (c_X7_demandPlant C.fl C.ok _ _ (by rw [hc]; exact hasB_j hn hj)) gX7_wouldFall_X7_demandPlant rfl rfl yok_X7_demandPlant ⟨rfl, rfl⟩ ⟨Nat.le_of_ble_eq_true rfl, Nat.le_of_ble_eq_true rfl⟩ (Nat.le_of_ble_eq_true rfl) ⟨Nat.zero_le _, Nat.zero_le _⟩ dX7_wouldFall_2 (fun μ1 hc1 => ?_)
  replace hc1 := hc1.symm
  subst hc1
  refine go_aload0 C (pc := 5) dX7_wouldFall_5 ?_
  refine go_iload2 C (pc := 6) dX7_wouldFall_6 ?_
  refine go_cvV1 C (pc := 7) obj_0 (c_X7_demandK C.fl C.ok _ _ (by omega)) gX7_wouldFall_X7_demandK rfl rfl yok_X7_demandK ⟨rfl, rfl⟩ ⟨Nat.le_of_ble_eq_true rfl, Nat.le_of_ble_eq_true rfl⟩ (Nat.le_of_ble_eq_true rfl) ⟨Nat.zero_le _, Nat.zero_le _⟩ dX7_wouldFall_7 (fun μ2 hc2 => ?_)
  replace hc2 := hc2.symm
  subst hc2
  refine go_aload0 C (pc := 10) dX7_wouldFall_10 ?_
  refine go_get C (pc := 11) 0 (by decide) rfl rfl 5 (by decide) rfl rfl hi_X7_wouldFall_RX7 lk_X7_wouldFall_48 dX7_wouldFall_11 ?_
  refine go_aload0 C (pc := 14) dX7_wouldFall_14 ?_
  refine go_get C (pc := 15) 0 (by decide) rfl rfl 0 (by decide) rfl rfl hi_X7_wouldFall_RX7 lk_X7_wouldFall_10 dX7_wouldFall_15 ?_
  refine go_ciV0 C (pc := 18) obj_1 (c_X5_plantsN C.fl C.ok _ hc) gX7_wouldFall_X5_plants rfl rfl yok_X5_plants ⟨rfl, rfl⟩ ⟨Nat.le_of_ble_eq_true rfl, Nat.le_of_ble_eq_true rfl⟩ (Nat.le_of_ble_eq_true rfl) ⟨Nat.zero_le _, Nat.zero_le _⟩ dX7_wouldFall_18 (fun r3 μ3 hc3 => ?_)
  obtain ⟨rfl, hm3⟩ := hc3
  replace hm3 := hm3.symm
  subst hm3
  refine go_aload0 C (pc := 21) dX7_wouldFall_21 ?_
  refine go_get C (pc := 22) 0 (by decide) rfl rfl 0 (by decide) rfl rfl hi_X7_wouldFall_RX7 lk_X7_wouldFall_10 dX7_wouldFall_22 ?_
  refine go_getN C (pc := 25) 1 (by decide) rfl rfl 1 (by decide) rfl rfl hi_X7_wouldFall_RX5 (host := "ThornCores") (by decide +kernel) dX7_wouldFall_25 ?_
  refine go_iload2 C (pc := 28) dX7_wouldFall_28 ?_
  refine go_ciV3 C (pc := 29) obj_12 (c_X0_left C.fl C.ok _ _ _ _ hc hT (sm_all hn) (by omega)) gX7_wouldFall_X0_left rfl rfl yok_X0_left ⟨rfl, rfl⟩ ⟨Nat.le_of_ble_eq_true rfl, Nat.le_of_ble_eq_true rfl⟩ (Nat.le_of_ble_eq_true rfl) ⟨Nat.zero_le _, Nat.zero_le _⟩ dX7_wouldFall_29 (fun r4 μ4 hc4 => ?_)
  obtain ⟨rfl, hm4⟩ := hc4
  replace hm4 := hm4.symm
  subst hm4
  refine go_istore3 C (pc := 32) dX7_wouldFall_32 ?_
  refine go_aload0 C (pc := 33) dX7_wouldFall_33 ?_
  refine go_get C (pc := 34) 0 (by decide) rfl rfl 5 (by decide) rfl rfl hi_X7_wouldFall_RX7 lk_X7_wouldFall_48 dX7_wouldFall_34 ?_
  refine go_aload0 C (pc := 37) dX7_wouldFall_37 ?_
  refine go_get C (pc := 38) 0 (by decide) rfl rfl 0 (by decide) rfl rfl hi_X7_wouldFall_RX7 lk_X7_wouldFall_10 dX7_wouldFall_38 ?_
  refine go_ciV0 C (pc := 41) obj_1 (c_X5_plantsN C.fl C.ok _ hc) gX7_wouldFall_X5_plants rfl rfl yok_X5_plants ⟨rfl, rfl⟩ ⟨Nat.le_of_ble_eq_true rfl, Nat.le_of_ble_eq_true rfl⟩ (Nat.le_of_ble_eq_true rfl) ⟨Nat.zero_le _, Nat.zero_le _⟩ dX7_wouldFall_41 (fun r5 μ5 hc5 => ?_)
  obtain ⟨rfl, hm5⟩ := hc5
  replace hm5 := hm5.symm
  subst hm5
  refine go_iload1 C (pc := 44) dX7_wouldFall_44 ?_
  refine go_ciS1 C (pc := 45) (c_X7_bit C.fl C.ok _ _ ) gX7_wouldFall_X7_bit rfl yok_X7_bit ⟨rfl, rfl⟩ ⟨Nat.le_of_ble_eq_true rfl, Nat.le_of_ble_eq_true rfl⟩ (Nat.le_of_ble_eq_true rfl) ⟨Nat.zero_le _, Nat.zero_le _⟩ dX7_wouldFall_45 (fun r6 μ6 hc6 => ?_)
  obtain ⟨rfl, hm6⟩ := hc6
  replace hm6 := hm6.symm
  subst hm6
  refine go_iconst C (pc := 48) (v := -1) (by decide) dX7_wouldFall_48 ?_
  refine go_ixor C (pc := 49) dX7_wouldFall_49 ?_
  refine go_iand C (pc := 50) dX7_wouldFall_50 ?_
  refine go_aload0 C (pc := 51) dX7_wouldFall_51 ?_
  refine go_get C (pc := 52) 0 (by decide) rfl rfl 0 (by decide) rfl rfl hi_X7_wouldFall_RX7 lk_X7_wouldFall_10 dX7_wouldFall_52 ?_
  refine go_getN C (pc := 55) 1 (by decide) rfl rfl 1 (by decide) rfl rfl hi_X7_wouldFall_RX5 (host := "ThornCores") (by decide +kernel) dX7_wouldFall_55 ?_
  refine go_iload2 C (pc := 58) dX7_wouldFall_58 ?_
  refine go_ciV3 C (pc := 59) obj_12 (c_X0_left C.fl C.ok _ _ _ _ hc hT (sm_and _ (sm_all hn)) (by omega)) gX7_wouldFall_X0_left rfl rfl yok_X0_left ⟨rfl, rfl⟩ ⟨Nat.le_of_ble_eq_true rfl, Nat.le_of_ble_eq_true rfl⟩ (Nat.le_of_ble_eq_true rfl) ⟨Nat.zero_le _, Nat.zero_le _⟩ dX7_wouldFall_59 (fun r7 μ7 hc7 => ?_)
  obtain ⟨rfl, hm7⟩ := hc7
  replace hm7 := hm7.symm
  subst hm7
  refine go_istore4 C (pc := 62) dX7_wouldFall_62 ?_
  refine go_iload3 C (pc := 64) dX7_wouldFall_64 ?_
  refine go_iload4 C (pc := 65) dX7_wouldFall_65 ?_
  refine go_iconst C (pc := 67) (v := -1) (by decide) dX7_wouldFall_67 ?_
  refine go_ixor C (pc := 68) dX7_wouldFall_68 ?_
  refine go_iand C (pc := 69) dX7_wouldFall_69 ?_
  refine go_ciS1 C (pc := 70) (c_X7_bitsN C.fl C.ok _ _ (sm_and _ (sm_core (sm_all hn)))) gX7_wouldFall_X7_bits rfl yok_X7_bits ⟨rfl, rfl⟩ ⟨Nat.le_of_ble_eq_true rfl, Nat.le_of_ble_eq_true rfl⟩ (Nat.le_of_ble_eq_true rfl) ⟨Nat.zero_le _, Nat.zero_le _⟩ dX7_wouldFall_70 (fun r8 μ8 hc8 => ?_)
  obtain ⟨rfl, hm8⟩ := hc8
  replace hm8 := hm8.symm
  subst hm8
  exact go_iret C hr dX7_wouldFall_73 (⟨rfl, rfl⟩)

theorem yok_X7_support : yOK yX7_support 2 := by unfold yOK; decide +kernel
theorem hi_X7_support_RX7 : ∀ w ∈ wsX70, w ∈ wsX7_support := by decide +kernel
theorem lk_X7_support_10 : Cond.fieldLink RX7 10 "ThornCores" "thicket" "LThornCores$Thicket;" ∈ wsX7_support := by decide +kernel
set_option maxRecDepth 20000 in
set_option maxHeartbeats 4000000 in
theorem c_X7_support {l : Launch} {D : va_G} {ad : Nat → Nat} {cI cL : ClassId} (hfl : l.flags = flags0) (hok : adOK ad) (μ : Mem) {n : Nat} (hc : μ 1 0 = nI n) (hT : TV n (μ 1 1) (μ 3)) (i j : Nat) (hi : i < n) (hj : j < n) (hb : bt (μ 3 i) j = true) : CtI l D ad cI cL yX7_support wsX7_support (RM 8 133) [.ref (ad 0), .int (nI i), .int (nI j)] μ (fun (r : Int32) (μ' : Mem) => r = nI (ct (μ 3 i &&& μ 3 j)) ∧ μ' = μ) := by
  refine ct_i (cc := cX7_support) (maxL := 3) (own := RX7) .int hfl hok (by decide) rfl rfl rfl (Nat.le_of_ble_eq_true rfl) (fun p e s m below meth c C hr => ?_)
  refine go_lv (lv' := [some (.ref (ad 0)), some (.int (nI i)), some (.int (nI j))]) rfl ?_
  have hn := hT.1
  refine go_aload0 C (pc := 0) dX7_support_0 ?_
  refine go_iload1 C (pc := 1) dX7_support_1 ?_
  refine go_iload2 C (pc := 2) dX7_support_2 ?_
  refine go_cvV2 C (pc := 3) obj_0 (c_X7_demandThorn C.fl C.ok _ _ _ (by rw [hc]; exact hasB_j hn hi) (by rw [hc]; exact hasB_j hn hj) (by rw [bndB_nI hc hT (by omega) (by omega)]; exact hb)) gX7_support_X7_demandThorn rfl rfl yok_X7_demandThorn ⟨rfl, rfl⟩ ⟨Nat.le_of_ble_eq_true rfl, Nat.le_of_ble_eq_true rfl⟩ (Nat.le_of_ble_eq_true rfl) ⟨Nat.zero_le _, Nat.zero_le _⟩ dX7_support_3 (fun μ1 hc1 => ?_)
  replace hc1 := hc1.symm
  subst hc1
  refine go_aload0 C (pc := 6) dX7_support_6 ?_
  refine go_get C (pc := 7) 0 (by decide) rfl rfl 0 (by decide) rfl rfl hi_X7_support_RX7 lk_X7_support_10 dX7_support_7 ?_
  refine go_iload1 C (pc := 10) dX7_support_10 ?_
  refine go_iload2 C (pc := 11) dX7_support_11 ?_
  refine go_ciV2 C (pc := 12) obj_1 (c_X5_aroundBothN C.fl C.ok _ _ _ (by omega) (by omega)) gX7_support_X5_aroundBoth rfl rfl yok_X5_aroundBoth ⟨rfl, rfl⟩ ⟨Nat.le_of_ble_eq_true rfl, Nat.le_of_ble_eq_true rfl⟩ (Nat.le_of_ble_eq_true rfl) ⟨Nat.zero_le _, Nat.zero_le _⟩ dX7_support_12 (fun r2 μ2 hc2 => ?_)
  obtain ⟨rfl, hm2⟩ := hc2
  replace hm2 := hm2.symm
  subst hm2
  refine go_ciS1 C (pc := 15) (c_X7_bitsN C.fl C.ok _ _ (sm_th hT (by omega) _)) gX7_support_X7_bits rfl yok_X7_bits ⟨rfl, rfl⟩ ⟨Nat.le_of_ble_eq_true rfl, Nat.le_of_ble_eq_true rfl⟩ (Nat.le_of_ble_eq_true rfl) ⟨Nat.zero_le _, Nat.zero_le _⟩ dX7_support_15 (fun r3 μ3 hc3 => ?_)
  obtain ⟨rfl, hm3⟩ := hc3
  replace hm3 := hm3.symm
  subst hm3
  exact go_iret C hr dX7_support_18 (⟨rfl, rfl⟩)

theorem yok_X7_trussOf : yOK yX7_trussOf 2 := by unfold yOK; decide +kernel
theorem hi_X7_trussOf_RX7 : ∀ w ∈ wsX70, w ∈ wsX7_trussOf := by decide +kernel
theorem lk_X7_trussOf_55 : Cond.fieldLink RX7 55 "ThornCores" "trusses" "LThornCores$Trusses;" ∈ wsX7_trussOf := by decide +kernel
set_option maxRecDepth 20000 in
set_option maxHeartbeats 4000000 in
theorem c_X7_trussOf {l : Launch} {D : va_G} {ad : Nat → Nat} {cI cL : ClassId} (hfl : l.flags = flags0) (hok : adOK ad) (μ : Mem) {n : Nat} (hc : μ 1 0 = nI n) (hT : TV n (μ 1 1) (μ 3)) (i j : Nat) (hi : i < n) (hj : j < n) (hb : bt (μ 3 i) j = true) : CtI l D ad cI cL yX7_trussOf wsX7_trussOf (RM 8 133) [.ref (ad 0), .int (nI i), .int (nI j)] μ (fun (r : Int32) (μ' : Mem) => r = nI (trN (μ 3) n i j) ∧ ∃ F, μ' = mset μ 17 F) := by
  refine ct_i (cc := cX7_trussOf) (maxL := 3) (own := RX7) .int hfl hok (by decide) rfl rfl rfl (Nat.le_of_ble_eq_true rfl) (fun p e s m below meth c C hr => ?_)
  refine go_lv (lv' := [some (.ref (ad 0)), some (.int (nI i)), some (.int (nI j))]) rfl ?_
  have hn := hT.1
  refine go_aload0 C (pc := 0) dX7_trussOf_0 ?_
  refine go_iload1 C (pc := 1) dX7_trussOf_1 ?_
  refine go_iload2 C (pc := 2) dX7_trussOf_2 ?_
  refine go_cvV2 C (pc := 3) obj_0 (c_X7_demandThorn C.fl C.ok _ _ _ (by rw [hc]; exact hasB_j hn hi) (by rw [hc]; exact hasB_j hn hj) (by rw [bndB_nI hc hT (by omega) (by omega)]; exact hb)) gX7_trussOf_X7_demandThorn rfl rfl yok_X7_demandThorn ⟨rfl, rfl⟩ ⟨Nat.le_of_ble_eq_true rfl, Nat.le_of_ble_eq_true rfl⟩ (Nat.le_of_ble_eq_true rfl) ⟨Nat.zero_le _, Nat.zero_le _⟩ dX7_trussOf_3 (fun μ1 hc1 => ?_)
  replace hc1 := hc1.symm
  subst hc1
  refine go_aload0 C (pc := 6) dX7_trussOf_6 ?_
  refine go_get C (pc := 7) 0 (by decide) rfl rfl 6 (by decide) rfl rfl hi_X7_trussOf_RX7 lk_X7_trussOf_55 dX7_trussOf_7 ?_
  refine go_iload1 C (pc := 10) dX7_trussOf_10 ?_
  refine go_iload2 C (pc := 11) dX7_trussOf_11 ?_
  refine go_ciV2 C (pc := 12) obj_15 (c_X6_numberByPeeling C.fl C.ok _ _ _ hc hT (by omega) (by omega) hb) gX7_trussOf_X6_numberByPeeling rfl rfl yok_X6_numberByPeeling ⟨rfl, rfl⟩ ⟨Nat.le_of_ble_eq_true rfl, Nat.le_of_ble_eq_true rfl⟩ (Nat.le_of_ble_eq_true rfl) ⟨Nat.zero_le _, Nat.zero_le _⟩ dX7_trussOf_12 (fun r2 μ2 hc2 => ?_)
  obtain ⟨rfl, F, rfl⟩ := hc2
  exact go_iret C hr dX7_trussOf_15 (⟨rfl, F, rfl⟩)

theorem yok_X7_trussByRounds : yOK yX7_trussByRounds 2 := by unfold yOK; decide +kernel
theorem hi_X7_trussByRounds_RX7 : ∀ w ∈ wsX70, w ∈ wsX7_trussByRounds := by decide +kernel
theorem lk_X7_trussByRounds_55 : Cond.fieldLink RX7 55 "ThornCores" "trusses" "LThornCores$Trusses;" ∈ wsX7_trussByRounds := by decide +kernel
set_option maxRecDepth 20000 in
set_option maxHeartbeats 4000000 in
theorem c_X7_trussByRounds {l : Launch} {D : va_G} {ad : Nat → Nat} {cI cL : ClassId} (hfl : l.flags = flags0) (hok : adOK ad) (μ : Mem) {n : Nat} (hc : μ 1 0 = nI n) (hT : TV n (μ 1 1) (μ 3)) (i j : Nat) (hi : i < n) (hj : j < n) (hb : bt (μ 3 i) j = true) : CtI l D ad cI cL yX7_trussByRounds wsX7_trussByRounds (RM 8 140) [.ref (ad 0), .int (nI i), .int (nI j)] μ (fun (r : Int32) (μ' : Mem) => r = nI (trN (μ 3) n i j) ∧ ∃ F, μ' = mset μ 19 F) := by
  refine ct_i (cc := cX7_trussByRounds) (maxL := 3) (own := RX7) .int hfl hok (by decide) rfl rfl rfl (Nat.le_of_ble_eq_true rfl) (fun p e s m below meth c C hr => ?_)
  refine go_lv (lv' := [some (.ref (ad 0)), some (.int (nI i)), some (.int (nI j))]) rfl ?_
  have hn := hT.1
  refine go_aload0 C (pc := 0) dX7_trussByRounds_0 ?_
  refine go_iload1 C (pc := 1) dX7_trussByRounds_1 ?_
  refine go_iload2 C (pc := 2) dX7_trussByRounds_2 ?_
  refine go_cvV2 C (pc := 3) obj_0 (c_X7_demandThorn C.fl C.ok _ _ _ (by rw [hc]; exact hasB_j hn hi) (by rw [hc]; exact hasB_j hn hj) (by rw [bndB_nI hc hT (by omega) (by omega)]; exact hb)) gX7_trussByRounds_X7_demandThorn rfl rfl yok_X7_demandThorn ⟨rfl, rfl⟩ ⟨Nat.le_of_ble_eq_true rfl, Nat.le_of_ble_eq_true rfl⟩ (Nat.le_of_ble_eq_true rfl) ⟨Nat.zero_le _, Nat.zero_le _⟩ dX7_trussByRounds_3 (fun μ1 hc1 => ?_)
  replace hc1 := hc1.symm
  subst hc1
  refine go_aload0 C (pc := 6) dX7_trussByRounds_6 ?_
  refine go_get C (pc := 7) 0 (by decide) rfl rfl 6 (by decide) rfl rfl hi_X7_trussByRounds_RX7 lk_X7_trussByRounds_55 dX7_trussByRounds_7 ?_
  refine go_iload1 C (pc := 10) dX7_trussByRounds_10 ?_
  refine go_iload2 C (pc := 11) dX7_trussByRounds_11 ?_
  refine go_ciV2 C (pc := 12) obj_15 (c_X6_numberByRounds C.fl C.ok _ _ _ hc hT (by omega) hb) gX7_trussByRounds_X6_numberByRounds rfl rfl yok_X6_numberByRounds ⟨rfl, rfl⟩ ⟨Nat.le_of_ble_eq_true rfl, Nat.le_of_ble_eq_true rfl⟩ (Nat.le_of_ble_eq_true rfl) ⟨Nat.zero_le _, Nat.zero_le _⟩ dX7_trussByRounds_12 (fun r2 μ2 hc2 => ?_)
  obtain ⟨rfl, F, rfl⟩ := hc2
  exact go_iret C hr dX7_trussByRounds_15 (⟨rfl, F, rfl⟩)

