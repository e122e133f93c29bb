/-! ===== ThornCores$Thicket: as functions of its numbers ===== -/
theorem b2i_false : b2i false = 0 := rfl
theorem b2i_true : b2i true = 1 := rfl
def hasB (c p : Int32) : Bool := !decide (p < 0) && decide (p < c)
def bndB (c : Int32) (th : Nat → Int32) (p q : Int32) : Bool := hasB c p && (hasB c q && inb (rowAt th 16 p) q)
theorem yok_X5_has : yOK yX5_has 1 := by unfold yOK; decide +kernel
theorem hi_X5_has_RX5 : ∀ w ∈ wsX50, w ∈ wsX5_has := by decide +kernel
theorem lk_X5_has_9 : Cond.fieldLink RX5 9 "ThornCores$Thicket" "count" "I" ∈ wsX5_has := by decide +kernel
set_option maxRecDepth 20000 in
set_option maxHeartbeats 4000000 in
theorem c_X5_has {l : Launch} {D : va_G} {ad : Nat → Nat} {cI cL : ClassId} (hfl : l.flags = flags0) (hok : adOK ad) (μ : Mem) (p0 : Int32) : CtI l D ad cI cL yX5_has wsX5_has (RM 0 0) [.ref (ad 1), .int p0] μ (fun (r : Int32) (μ' : Mem) => r = b2i (hasB (μ 1 0) p0) ∧ μ' = μ) := by
  refine ct_i (cc := cX5_has) (maxL := 2) (own := RX5) .boolean hfl hok (by decide) rfl rfl rfl (Nat.le_of_ble_eq_true rfl) (fun p e s m below meth c C hr => ?_)
  refine go_lv (lv' := [some (.ref (ad 1)), some (.int p0)]) rfl ?_
  refine go_iload1 C (pc := 0) dX5_has_0 ?_
  refine go_if_lt C (pc := 1) (tgt := 16) dX5_has_1 (by decide) (fun h1 => ?_) (fun h1 => ?_)
  · refine go_iconst C (pc := 16) (v := 0) (by decide) dX5_has_16 ?_
    exact go_zret C hr dX5_has_17 (by first | decide | exact b2i_01 _) (⟨by simp [hasB, h1, h1, b2i_false, b2i_true], rfl⟩)
  · refine go_iload1 C (pc := 4) dX5_has_4 ?_
    refine go_aload0 C (pc := 5) dX5_has_5 ?_
    refine go_get C (pc := 6) 1 (by decide) rfl rfl 0 (by decide) rfl rfl hi_X5_has_RX5 lk_X5_has_9 dX5_has_6 ?_
    refine go_icmp_ge C (pc := 9) (tgt := 16) dX5_has_9 (by decide) (fun h9 => ?_) (fun h9 => ?_)
    · refine go_iconst C (pc := 16) (v := 0) (by decide) dX5_has_16 ?_
      exact go_zret C hr dX5_has_17 (by first | decide | exact b2i_01 _) (⟨by simp [hasB, h1, Int32.not_lt.mpr h9, b2i_false, b2i_true], rfl⟩)
    · refine go_iconst C (pc := 12) (v := 1) (by decide) dX5_has_12 ?_
      refine go_goto C (pc := 13) (tgt := 17) dX5_has_13 (by decide) ?_
      exact go_zret C hr dX5_has_17 (by first | decide | exact b2i_01 _) (⟨by simp [hasB, h1, Int32.not_le.mp h9, b2i_false, b2i_true], rfl⟩)

theorem yok_X5_isFull : yOK yX5_isFull 0 := by unfold yOK; decide +kernel
theorem hi_X5_isFull_RX5 : ∀ w ∈ wsX50, w ∈ wsX5_isFull := by decide +kernel
theorem lk_X5_isFull_9 : Cond.fieldLink RX5 9 "ThornCores$Thicket" "count" "I" ∈ wsX5_isFull := by decide +kernel
set_option maxRecDepth 20000 in
set_option maxHeartbeats 4000000 in
theorem c_X5_isFull {l : Launch} {D : va_G} {ad : Nat → Nat} {cI cL : ClassId} (hfl : l.flags = flags0) (hok : adOK ad) (μ : Mem) : CtI l D ad cI cL yX5_isFull wsX5_isFull (RM 0 0) [.ref (ad 1)] μ (fun (r : Int32) (μ' : Mem) => r = b2i (!decide (μ 1 0 < 16)) ∧ μ' = μ) := by
  refine ct_i (cc := cX5_isFull) (maxL := 1) (own := RX5) .boolean hfl hok (by decide) rfl rfl rfl (Nat.le_of_ble_eq_true rfl) (fun p e s m below meth c C hr => ?_)
  refine go_lv (lv' := [some (.ref (ad 1))]) rfl ?_
  refine go_aload0 C (pc := 0) dX5_isFull_0 ?_
  refine go_get C (pc := 1) 1 (by decide) rfl rfl 0 (by decide) rfl rfl hi_X5_isFull_RX5 lk_X5_isFull_9 dX5_isFull_1 ?_
  refine go_bipush C (pc := 4) (v := 16) (by decide) dX5_isFull_4 ?_
  refine go_icmp_lt C (pc := 6) (tgt := 13) dX5_isFull_6 (by decide) (fun h6 => ?_) (fun h6 => ?_)
  · refine go_iconst C (pc := 13) (v := 0) (by decide) dX5_isFull_13 ?_
    exact go_zret C hr dX5_isFull_14 (by first | decide | exact b2i_01 _) (⟨by simp [h6, b2i_false, b2i_true], rfl⟩)
  · refine go_iconst C (pc := 9) (v := 1) (by decide) dX5_isFull_9 ?_
    refine go_goto C (pc := 10) (tgt := 14) dX5_isFull_10 (by decide) ?_
    exact go_zret C hr dX5_isFull_14 (by first | decide | exact b2i_01 _) (⟨by simp [h6, b2i_false, b2i_true], rfl⟩)

theorem yok_X5_plants : yOK yX5_plants 0 := by unfold yOK; decide +kernel
theorem hi_X5_plants_RX5 : ∀ w ∈ wsX50, w ∈ wsX5_plants := by decide +kernel
theorem lk_X5_plants_9 : Cond.fieldLink RX5 9 "ThornCores$Thicket" "count" "I" ∈ wsX5_plants := by decide +kernel
theorem lw_X5_plants_s_X7_bit : Cond.static yX7_bit ∈ wsX5_plants := by decide +kernel
theorem lw_X5_plants_i_X7_bit : Cond.initialized RX7 ∈ wsX5_plants := by decide +kernel
set_option maxRecDepth 20000 in
set_option maxHeartbeats 4000000 in
theorem c_X5_plants {l : Launch} {D : va_G} {ad : Nat → Nat} {cI cL : ClassId} (hfl : l.flags = flags0) (hok : adOK ad) (μ : Mem) : CtI l D ad cI cL yX5_plants wsX5_plants (RM 1 20) [.ref (ad 1)] μ (fun (r : Int32) (μ' : Mem) => r = bitI (μ 1 0) - 1 ∧ μ' = μ) := by
  refine ct_i (cc := cX5_plants) (maxL := 1) (own := RX5) .int hfl hok (by decide) rfl rfl rfl (Nat.le_of_ble_eq_true rfl) (fun p e s m below meth c C hr => ?_)
  refine go_lv (lv' := [some (.ref (ad 1))]) rfl ?_
  refine go_aload0 C (pc := 0) dX5_plants_0 ?_
  refine go_get C (pc := 1) 1 (by decide) rfl rfl 0 (by decide) rfl rfl hi_X5_plants_RX5 lk_X5_plants_9 dX5_plants_1 ?_
  refine go_ciSN1 C (pc := 4) (host := "ThornCores") (c_X7_bit C.fl C.ok _ _ ) gX5_plants_X7_bit_n27 rfl (by decide +kernel) lw_X5_plants_s_X7_bit lw_X5_plants_i_X7_bit yok_X7_bit ⟨rfl, rfl⟩ ⟨Nat.le_of_ble_eq_true rfl, Nat.le_of_ble_eq_true rfl⟩ (Nat.le_of_ble_eq_true rfl) ⟨Nat.zero_le _, Nat.zero_le _⟩ dX5_plants_4 (fun r1 μ1 hc1 => ?_)
  obtain ⟨rfl, hm1⟩ := hc1
  replace hm1 := hm1.symm
  subst hm1
  refine go_iconst C (pc := 7) (v := 1) (by decide) dX5_plants_7 ?_
  refine go_isub C (pc := 8) dX5_plants_8 ?_
  exact go_iret C hr dX5_plants_9 (⟨rfl, rfl⟩)

theorem yok_X5_around : yOK yX5_around 1 := by unfold yOK; decide +kernel
theorem hi_X5_around_RX5 : ∀ w ∈ wsX50, w ∈ wsX5_around := by decide +kernel
theorem lk_X5_around_23 : Cond.fieldLink RX5 23 "ThornCores$Thicket" "thorns" "LThornCores$Row;" ∈ wsX5_around := by decide +kernel
set_option maxRecDepth 20000 in
set_option maxHeartbeats 4000000 in
theorem c_X5_around {l : Launch} {D : va_G} {ad : Nat → Nat} {cI cL : ClassId} (hfl : l.flags = flags0) (hok : adOK ad) (μ : Mem) (p0 : Int32) : CtI l D ad cI cL yX5_around wsX5_around (RM 1 21) [.ref (ad 1), .int p0] μ (fun (r : Int32) (μ' : Mem) => r = rowAt (μ 3) 16 p0 ∧ μ' = μ) := by
  refine ct_i (cc := cX5_around) (maxL := 2) (own := RX5) .int hfl hok (by decide) rfl rfl rfl (Nat.le_of_ble_eq_true rfl) (fun p e s m below meth c C hr => ?_)
  refine go_lv (lv' := [some (.ref (ad 1)), some (.int p0)]) rfl ?_
  refine go_aload0 C (pc := 0) dX5_around_0 ?_
  refine go_get C (pc := 1) 1 (by decide) rfl rfl 2 (by decide) rfl rfl hi_X5_around_RX5 lk_X5_around_23 dX5_around_1 ?_
  refine go_iload1 C (pc := 4) dX5_around_4 ?_
  refine go_ciV1 C (pc := 5) obj_2 (c_X3_at C.fl C.ok _ 2 16 row_2 _  ) gX5_around_X3_at rfl rfl yok_X3_at ⟨rfl, rfl⟩ ⟨Nat.le_of_ble_eq_true rfl, Nat.le_of_ble_eq_true rfl⟩ (Nat.le_of_ble_eq_true rfl) ⟨Nat.zero_le _, Nat.zero_le _⟩ dX5_around_5 (fun r1 μ1 hc1 => ?_)
  obtain ⟨rfl, hm1⟩ := hc1
  replace hm1 := hm1.symm
  subst hm1
  exact go_iret C hr dX5_around_8 (⟨rfl, rfl⟩)

theorem yok_X5_aroundBoth : yOK yX5_aroundBoth 2 := by unfold yOK; decide +kernel
theorem hi_X5_aroundBoth_RX5 : ∀ w ∈ wsX50, w ∈ wsX5_aroundBoth := by decide +kernel
theorem lk_X5_aroundBoth_23 : Cond.fieldLink RX5 23 "ThornCores$Thicket" "thorns" "LThornCores$Row;" ∈ wsX5_aroundBoth := by decide +kernel
set_option maxRecDepth 20000 in
set_option maxHeartbeats 4000000 in
theorem c_X5_aroundBoth {l : Launch} {D : va_G} {ad : Nat → Nat} {cI cL : ClassId} (hfl : l.flags = flags0) (hok : adOK ad) (μ : Mem) (p0 p1 : Int32) : CtI l D ad cI cL yX5_aroundBoth wsX5_aroundBoth (RM 1 21) [.ref (ad 1), .int p0, .int p1] μ (fun (r : Int32) (μ' : Mem) => r = rowAt (μ 3) 16 p0 &&& rowAt (μ 3) 16 p1 ∧ μ' = μ) := by
  refine ct_i (cc := cX5_aroundBoth) (maxL := 3) (own := RX5) .int hfl hok (by decide) rfl rfl rfl (Nat.le_of_ble_eq_true rfl) (fun p e s m below meth c C hr => ?_)
  refine go_lv (lv' := [some (.ref (ad 1)), some (.int p0), some (.int p1)]) rfl ?_
  refine go_aload0 C (pc := 0) dX5_aroundBoth_0 ?_
  refine go_get C (pc := 1) 1 (by decide) rfl rfl 2 (by decide) rfl rfl hi_X5_aroundBoth_RX5 lk_X5_aroundBoth_23 dX5_aroundBoth_1 ?_
  refine go_iload1 C (pc := 4) dX5_aroundBoth_4 ?_
  refine go_ciV1 C (pc := 5) obj_2 (c_X3_at C.fl C.ok _ 2 16 row_2 _  ) gX5_aroundBoth_X3_at rfl rfl yok_X3_at ⟨rfl, rfl⟩ ⟨Nat.le_of_ble_eq_true rfl, Nat.le_of_ble_eq_true rfl⟩ (Nat.le_of_ble_eq_true rfl) ⟨Nat.zero_le _, Nat.zero_le _⟩ dX5_aroundBoth_5 (fun r1 μ1 hc1 => ?_)
  obtain ⟨rfl, hm1⟩ := hc1
  replace hm1 := hm1.symm
  subst hm1
  refine go_aload0 C (pc := 8) dX5_aroundBoth_8 ?_
  refine go_get C (pc := 9) 1 (by decide) rfl rfl 2 (by decide) rfl rfl hi_X5_aroundBoth_RX5 lk_X5_aroundBoth_23 dX5_aroundBoth_9 ?_
  refine go_iload2 C (pc := 12) dX5_aroundBoth_12 ?_
  refine go_ciV1 C (pc := 13) obj_2 (c_X3_at C.fl C.ok _ 2 16 row_2 _  ) gX5_aroundBoth_X3_at rfl rfl yok_X3_at ⟨rfl, rfl⟩ ⟨Nat.le_of_ble_eq_true rfl, Nat.le_of_ble_eq_true rfl⟩ (Nat.le_of_ble_eq_true rfl) ⟨Nat.zero_le _, Nat.zero_le _⟩ dX5_aroundBoth_13 (fun r2 μ2 hc2 => ?_)
  obtain ⟨rfl, hm2⟩ := hc2
  replace hm2 := hm2.symm
  subst hm2
  refine go_iand C (pc := 16) dX5_aroundBoth_16 ?_
  exact go_iret C hr dX5_aroundBoth_17 (⟨rfl, rfl⟩)

theorem yok_X5_held : yOK yX5_held 1 := by unfold yOK; decide +kernel
theorem hi_X5_held_RX5 : ∀ w ∈ wsX50, w ∈ wsX5_held := by decide +kernel
theorem lk_X5_held_23 : Cond.fieldLink RX5 23 "ThornCores$Thicket" "thorns" "LThornCores$Row;" ∈ wsX5_held := by decide +kernel
theorem lw_X5_held_s_X7_bits : Cond.static yX7_bits ∈ wsX5_held := by decide +kernel
theorem lw_X5_held_i_X7_bits : Cond.initialized RX7 ∈ wsX5_held := by decide +kernel
set_option maxRecDepth 20000 in
set_option maxHeartbeats 4000000 in
theorem c_X5_held {l : Launch} {D : va_G} {ad : Nat → Nat} {cI cL : ClassId} (hfl : l.flags = flags0) (hok : adOK ad) (μ : Mem) (p0 : Int32) : CtI l D ad cI cL yX5_held wsX5_held (RM 2 40) [.ref (ad 1), .int p0] μ (fun (r : Int32) (μ' : Mem) => r = bcI (rowAt (μ 3) 16 p0) ∧ μ' = μ) := by
  refine ct_i (cc := cX5_held) (maxL := 2) (own := RX5) .int hfl hok (by decide) rfl rfl rfl (Nat.le_of_ble_eq_true rfl) (fun p e s m below meth c C hr => ?_)
  refine go_lv (lv' := [some (.ref (ad 1)), some (.int p0)]) rfl ?_
  refine go_aload0 C (pc := 0) dX5_held_0 ?_
  refine go_get C (pc := 1) 1 (by decide) rfl rfl 2 (by decide) rfl rfl hi_X5_held_RX5 lk_X5_held_23 dX5_held_1 ?_
  refine go_iload1 C (pc := 4) dX5_held_4 ?_
  refine go_ciV1 C (pc := 5) obj_2 (c_X3_at C.fl C.ok _ 2 16 row_2 _  ) gX5_held_X3_at rfl rfl yok_X3_at ⟨rfl, rfl⟩ ⟨Nat.le_of_ble_eq_true rfl, Nat.le_of_ble_eq_true rfl⟩ (Nat.le_of_ble_eq_true rfl) ⟨Nat.zero_le _, Nat.zero_le _⟩ dX5_held_5 (fun r1 μ1 hc1 => ?_)
  obtain ⟨rfl, hm1⟩ := hc1
  replace hm1 := hm1.symm
  subst hm1
  refine go_ciSN1 C (pc := 8) (host := "ThornCores") (c_X7_bits C.fl C.ok _ _ ) gX5_held_X7_bits_n34 rfl (by decide +kernel) lw_X5_held_s_X7_bits lw_X5_held_i_X7_bits yok_X7_bits ⟨rfl, rfl⟩ ⟨Nat.le_of_ble_eq_true rfl, Nat.le_of_ble_eq_true rfl⟩ (Nat.le_of_ble_eq_true rfl) ⟨Nat.zero_le _, Nat.zero_le _⟩ dX5_held_8 (fun r2 μ2 hc2 => ?_)
  obtain ⟨rfl, hm2⟩ := hc2
  replace hm2 := hm2.symm
  subst hm2
  exact go_iret C hr dX5_held_11 (⟨rfl, rfl⟩)

theorem yok_X5_hasProp : yOK yX5_hasProp 1 := by unfold yOK; decide +kernel
theorem hi_X5_hasProp_RX5 : ∀ w ∈ wsX50, w ∈ wsX5_hasProp := by decide +kernel
theorem lk_X5_hasProp_15 : Cond.fieldLink RX5 15 "ThornCores$Thicket" "props" "I" ∈ wsX5_hasProp := by decide +kernel
theorem lw_X5_hasProp_s_X7_in : Cond.static yX7_in ∈ wsX5_hasProp := by decide +kernel
theorem lw_X5_hasProp_i_X7_in : Cond.initialized RX7 ∈ wsX5_hasProp := by decide +kernel
set_option maxRecDepth 20000 in
set_option maxHeartbeats 4000000 in
theorem c_X5_hasProp {l : Launch} {D : va_G} {ad : Nat → Nat} {cI cL : ClassId} (hfl : l.flags = flags0) (hok : adOK ad) (μ : Mem) (p0 : Int32) : CtI l D ad cI cL yX5_hasProp wsX5_hasProp (RM 1 21) [.ref (ad 1), .int p0] μ (fun (r : Int32) (μ' : Mem) => r = b2i (hasB (μ 1 0) p0 && inb (μ 1 1) p0) ∧ μ' = μ) := by
  refine ct_i (cc := cX5_hasProp) (maxL := 2) (own := RX5) .boolean hfl hok (by decide) rfl rfl rfl (Nat.le_of_ble_eq_true rfl) (fun p e s m below meth c C hr => ?_)
  refine go_lv (lv' := [some (.ref (ad 1)), some (.int p0)]) rfl ?_
  refine go_aload0 C (pc := 0) dX5_hasProp_0 ?_
  refine go_iload1 C (pc := 1) dX5_hasProp_1 ?_
  refine go_ciV1 C (pc := 2) obj_1 (c_X5_has C.fl C.ok _ _ ) gX5_hasProp_X5_has rfl rfl yok_X5_has ⟨rfl, rfl⟩ ⟨Nat.le_of_ble_eq_true rfl, Nat.le_of_ble_eq_true rfl⟩ (Nat.le_of_ble_eq_true rfl) ⟨Nat.zero_le _, Nat.zero_le _⟩ dX5_hasProp_2 (fun r1 μ1 hc1 => ?_)
  obtain ⟨rfl, hm1⟩ := hc1
  replace hm1 := hm1.symm
  subst hm1
  refine go_if_eq C (pc := 5) (tgt := 23) dX5_hasProp_5 (by decide) (fun h5 => ?_) (fun h5 => ?_)
  · refine go_iconst C (pc := 23) (v := 0) (by decide) dX5_hasProp_23 ?_
    exact go_zret C hr dX5_hasProp_24 (by first | decide | exact b2i_01 _) (⟨by (rw [b2i_0] at h5); simp [bndB, b2i_false, b2i_true, h5], rfl⟩)
  · refine go_aload0 C (pc := 8) dX5_hasProp_8 ?_
    refine go_get C (pc := 9) 1 (by decide) rfl rfl 1 (by decide) rfl rfl hi_X5_hasProp_RX5 lk_X5_hasProp_15 dX5_hasProp_9 ?_
    refine go_iload1 C (pc := 12) dX5_hasProp_12 ?_
    refine go_ciSN2 C (pc := 13) (host := "ThornCores") (c_X7_in C.fl C.ok _ _ _ ) gX5_hasProp_X7_in_n41 rfl (by decide +kernel) lw_X5_hasProp_s_X7_in lw_X5_hasProp_i_X7_in yok_X7_in ⟨rfl, rfl⟩ ⟨Nat.le_of_ble_eq_true rfl, Nat.le_of_ble_eq_true rfl⟩ (Nat.le_of_ble_eq_true rfl) ⟨Nat.zero_le _, Nat.zero_le _⟩ dX5_hasProp_13 (fun r3 μ3 hc3 => ?_)
    obtain ⟨rfl, hm3⟩ := hc3
    replace hm3 := hm3.symm
    subst hm3
    refine go_if_eq C (pc := 16) (tgt := 23) dX5_hasProp_16 (by decide) (fun h16 => ?_) (fun h16 => ?_)
    · refine go_iconst C (pc := 23) (v := 0) (by decide) dX5_hasProp_23 ?_
      exact go_zret C hr dX5_hasProp_24 (by first | decide | exact b2i_01 _) (⟨by (rw [b2i_0] at h5 h16); simp [bndB, b2i_false, b2i_true, h5, h16], rfl⟩)
    · refine go_iconst C (pc := 19) (v := 1) (by decide) dX5_hasProp_19 ?_
      refine go_goto C (pc := 20) (tgt := 24) dX5_hasProp_20 (by decide) ?_
      exact go_zret C hr dX5_hasProp_24 (by first | decide | exact b2i_01 _) (⟨by (rw [b2i_0] at h5 h16); simp [bndB, b2i_false, b2i_true, h5, h16], rfl⟩)

theorem yok_X5_isBound : yOK yX5_isBound 2 := by unfold yOK; decide +kernel
theorem hi_X5_isBound_RX5 : ∀ w ∈ wsX50, w ∈ wsX5_isBound := by decide +kernel
theorem lk_X5_isBound_23 : Cond.fieldLink RX5 23 "ThornCores$Thicket" "thorns" "LThornCores$Row;" ∈ wsX5_isBound := by decide +kernel
theorem lw_X5_isBound_s_X7_in : Cond.static yX7_in ∈ wsX5_isBound := by decide +kernel
theorem lw_X5_isBound_i_X7_in : Cond.initialized RX7 ∈ wsX5_isBound := by decide +kernel
set_option maxRecDepth 20000 in
set_option maxHeartbeats 4000000 in
theorem c_X5_isBound {l : Launch} {D : va_G} {ad : Nat → Nat} {cI cL : ClassId} (hfl : l.flags = flags0) (hok : adOK ad) (μ : Mem) (p0 p1 : Int32) : CtI l D ad cI cL yX5_isBound wsX5_isBound (RM 1 21) [.ref (ad 1), .int p0, .int p1] μ (fun (r : Int32) (μ' : Mem) => r = b2i (bndB (μ 1 0) (μ 3) p0 p1) ∧ μ' = μ) := by
  refine ct_i (cc := cX5_isBound) (maxL := 3) (own := RX5) .boolean hfl hok (by decide) rfl rfl rfl (Nat.le_of_ble_eq_true rfl) (fun p e s m below meth c C hr => ?_)
  refine go_lv (lv' := [some (.ref (ad 1)), some (.int p0), some (.int p1)]) rfl ?_
  refine go_aload0 C (pc := 0) dX5_isBound_0 ?_
  refine go_iload1 C (pc := 1) dX5_isBound_1 ?_
  refine go_ciV1 C (pc := 2) obj_1 (c_X5_has C.fl C.ok _ _ ) gX5_isBound_X5_has rfl rfl yok_X5_has ⟨rfl, rfl⟩ ⟨Nat.le_of_ble_eq_true rfl, Nat.le_of_ble_eq_true rfl⟩ (Nat.le_of_ble_eq_true rfl) ⟨Nat.zero_le _, Nat.zero_le _⟩ dX5_isBound_2 (fun r1 μ1 hc1 => ?_)
  obtain ⟨rfl, hm1⟩ := hc1
  replace hm1 := hm1.symm
  subst hm1
  refine go_if_eq C (pc := 5) (tgt := 35) dX5_isBound_5 (by decide) (fun h5 => ?_) (fun h5 => ?_)
  · refine go_iconst C (pc := 35) (v := 0) (by decide) dX5_isBound_35 ?_
    exact go_zret C hr dX5_isBound_36 (by first | decide | exact b2i_01 _) (⟨by (rw [b2i_0] at h5); simp [bndB, b2i_false, b2i_true, h5], rfl⟩)
  · refine go_aload0 C (pc := 8) dX5_isBound_8 ?_
    refine go_iload2 C (pc := 9) dX5_isBound_9 ?_
    refine go_ciV1 C (pc := 10) obj_1 (c_X5_has C.fl C.ok _ _ ) gX5_isBound_X5_has rfl rfl yok_X5_has ⟨rfl, rfl⟩ ⟨Nat.le_of_ble_eq_true rfl, Nat.le_of_ble_eq_true rfl⟩ (Nat.le_of_ble_eq_true rfl) ⟨Nat.zero_le _, Nat.zero_le _⟩ dX5_isBound_10 (fun r3 μ3 hc3 => ?_)
    obtain ⟨rfl, hm3⟩ := hc3
    replace hm3 := hm3.symm
    subst hm3
    refine go_if_eq C (pc := 13) (tgt := 35) dX5_isBound_13 (by decide) (fun h13 => ?_) (fun h13 => ?_)
    · refine go_iconst C (pc := 35) (v := 0) (by decide) dX5_isBound_35 ?_
      exact go_zret C hr dX5_isBound_36 (by first | decide | exact b2i_01 _) (⟨by (rw [b2i_0] at h5 h13); simp [bndB, b2i_false, b2i_true, h5, h13], rfl⟩)
    · refine go_aload0 C (pc := 16) dX5_isBound_16 ?_
      refine go_get C (pc := 17) 1 (by decide) rfl rfl 2 (by decide) rfl rfl hi_X5_isBound_RX5 lk_X5_isBound_23 dX5_isBound_17 ?_
      refine go_iload1 C (pc := 20) dX5_isBound_20 ?_
      refine go_ciV1 C (pc := 21) obj_2 (c_X3_at C.fl C.ok _ 2 16 row_2 _  ) gX5_isBound_X3_at rfl rfl yok_X3_at ⟨rfl, rfl⟩ ⟨Nat.le_of_ble_eq_true rfl, Nat.le_of_ble_eq_true rfl⟩ (Nat.le_of_ble_eq_true rfl) ⟨Nat.zero_le _, Nat.zero_le _⟩ dX5_isBound_21 (fun r5 μ5 hc5 => ?_)
      obtain ⟨rfl, hm5⟩ := hc5
      replace hm5 := hm5.symm
      subst hm5
      refine go_iload2 C (pc := 24) dX5_isBound_24 ?_
      refine go_ciSN2 C (pc := 25) (host := "ThornCores") (c_X7_in C.fl C.ok _ _ _ ) gX5_isBound_X7_in_n41 rfl (by decide +kernel) lw_X5_isBound_s_X7_in lw_X5_isBound_i_X7_in yok_X7_in ⟨rfl, rfl⟩ ⟨Nat.le_of_ble_eq_true rfl, Nat.le_of_ble_eq_true rfl⟩ (Nat.le_of_ble_eq_true rfl) ⟨Nat.zero_le _, Nat.zero_le _⟩ dX5_isBound_25 (fun r6 μ6 hc6 => ?_)
      obtain ⟨rfl, hm6⟩ := hc6
      replace hm6 := hm6.symm
      subst hm6
      refine go_if_eq C (pc := 28) (tgt := 35) dX5_isBound_28 (by decide) (fun h28 => ?_) (fun h28 => ?_)
      · refine go_iconst C (pc := 35) (v := 0) (by decide) dX5_isBound_35 ?_
        exact go_zret C hr dX5_isBound_36 (by first | decide | exact b2i_01 _) (⟨by (rw [b2i_0] at h5 h13 h28); simp [bndB, b2i_false, b2i_true, h5, h13, h28], rfl⟩)
      · refine go_iconst C (pc := 31) (v := 1) (by decide) dX5_isBound_31 ?_
        refine go_goto C (pc := 32) (tgt := 36) dX5_isBound_32 (by decide) ?_
        exact go_zret C hr dX5_isBound_36 (by first | decide | exact b2i_01 _) (⟨by (rw [b2i_0] at h5 h13 h28); simp [bndB, b2i_false, b2i_true, h5, h13, h28], rfl⟩)

theorem yok_X5_isTriangle : yOK yX5_isTriangle 3 := by unfold yOK; decide +kernel
set_option maxRecDepth 20000 in
set_option maxHeartbeats 4000000 in
theorem c_X5_isTriangle {l : Launch} {D : va_G} {ad : Nat → Nat} {cI cL : ClassId} (hfl : l.flags = flags0) (hok : adOK ad) (μ : Mem) (p0 p1 p2 : Int32) : CtI l D ad cI cL yX5_isTriangle wsX5_isTriangle (RM 2 43) [.ref (ad 1), .int p0, .int p1, .int p2] μ (fun (r : Int32) (μ' : Mem) => r = b2i (bndB (μ 1 0) (μ 3) p0 p1 && (bndB (μ 1 0) (μ 3) p0 p2 && bndB (μ 1 0) (μ 3) p1 p2)) ∧ μ' = μ) := by
  refine ct_i (cc := cX5_isTriangle) (maxL := 4) (own := RX5) .boolean hfl hok (by decide) rfl rfl rfl (Nat.le_of_ble_eq_true rfl) (fun p e s m below meth c C hr => ?_)
  refine go_lv (lv' := [some (.ref (ad 1)), some (.int p0), some (.int p1), some (.int p2)]) rfl ?_
  refine go_aload0 C (pc := 0) dX5_isTriangle_0 ?_
  refine go_iload1 C (pc := 1) dX5_isTriangle_1 ?_
  refine go_iload2 C (pc := 2) dX5_isTriangle_2 ?_
  refine go_ciV2 C (pc := 3) obj_1 (c_X5_isBound C.fl C.ok _ _ _ ) gX5_isTriangle_X5_isBound rfl rfl yok_X5_isBound ⟨rfl, rfl⟩ ⟨Nat.le_of_ble_eq_true rfl, Nat.le_of_ble_eq_true rfl⟩ (Nat.le_of_ble_eq_true rfl) ⟨Nat.zero_le _, Nat.zero_le _⟩ dX5_isTriangle_3 (fun r1 μ1 hc1 => ?_)
  obtain ⟨rfl, hm1⟩ := hc1
  replace hm1 := hm1.symm
  subst hm1
  refine go_if_eq C (pc := 6) (tgt := 31) dX5_isTriangle_6 (by decide) (fun h6 => ?_) (fun h6 => ?_)
  · refine go_iconst C (pc := 31) (v := 0) (by decide) dX5_isTriangle_31 ?_
    exact go_zret C hr dX5_isTriangle_32 (by first | decide | exact b2i_01 _) (⟨by (rw [b2i_0] at h6); simp [b2i_false, b2i_true, h6], rfl⟩)
  · refine go_aload0 C (pc := 9) dX5_isTriangle_9 ?_
    refine go_iload1 C (pc := 10) dX5_isTriangle_10 ?_
    refine go_iload3 C (pc := 11) dX5_isTriangle_11 ?_
    refine go_ciV2 C (pc := 12) obj_1 (c_X5_isBound C.fl C.ok _ _ _ ) gX5_isTriangle_X5_isBound rfl rfl yok_X5_isBound ⟨rfl, rfl⟩ ⟨Nat.le_of_ble_eq_true rfl, Nat.le_of_ble_eq_true rfl⟩ (Nat.le_of_ble_eq_true rfl) ⟨Nat.zero_le _, Nat.zero_le _⟩ dX5_isTriangle_12 (fun r3 μ3 hc3 => ?_)
    obtain ⟨rfl, hm3⟩ := hc3
    replace hm3 := hm3.symm
    subst hm3
    refine go_if_eq C (pc := 15) (tgt := 31) dX5_isTriangle_15 (by decide) (fun h15 => ?_) (fun h15 => ?_)
    · refine go_iconst C (pc := 31) (v := 0) (by decide) dX5_isTriangle_31 ?_
      exact go_zret C hr dX5_isTriangle_32 (by first | decide | exact b2i_01 _) (⟨by (rw [b2i_0] at h6 h15); simp [b2i_false, b2i_true, h6, h15], rfl⟩)
    · refine go_aload0 C (pc := 18) dX5_isTriangle_18 ?_
      refine go_iload2 C (pc := 19) dX5_isTriangle_19 ?_
      refine go_iload3 C (pc := 20) dX5_isTriangle_20 ?_
      refine go_ciV2 C (pc := 21) obj_1 (c_X5_isBound C.fl C.ok _ _ _ ) gX5_isTriangle_X5_isBound rfl rfl yok_X5_isBound ⟨rfl, rfl⟩ ⟨Nat.le_of_ble_eq_true rfl, Nat.le_of_ble_eq_true rfl⟩ (Nat.le_of_ble_eq_true rfl) ⟨Nat.zero_le _, Nat.zero_le _⟩ dX5_isTriangle_21 (fun r5 μ5 hc5 => ?_)
      obtain ⟨rfl, hm5⟩ := hc5
      replace hm5 := hm5.symm
      subst hm5
      refine go_if_eq C (pc := 24) (tgt := 31) dX5_isTriangle_24 (by decide) (fun h24 => ?_) (fun h24 => ?_)
      · refine go_iconst C (pc := 31) (v := 0) (by decide) dX5_isTriangle_31 ?_
        exact go_zret C hr dX5_isTriangle_32 (by first | decide | exact b2i_01 _) (⟨by (rw [b2i_0] at h6 h15 h24); simp [b2i_false, b2i_true, h6, h15, h24], rfl⟩)
      · refine go_iconst C (pc := 27) (v := 1) (by decide) dX5_isTriangle_27 ?_
        refine go_goto C (pc := 28) (tgt := 32) dX5_isTriangle_28 (by decide) ?_
        exact go_zret C hr dX5_isTriangle_32 (by first | decide | exact b2i_01 _) (⟨by (rw [b2i_0] at h6 h15 h24); simp [b2i_false, b2i_true, h6, h15, h24], rfl⟩)

theorem yok_X5_grow : yOK yX5_grow 0 := by unfold yOK; decide +kernel
theorem hi_X5_grow_RX5 : ∀ w ∈ wsX50, w ∈ wsX5_grow := by decide +kernel
theorem lk_X5_grow_9 : Cond.fieldLink RX5 9 "ThornCores$Thicket" "count" "I" ∈ wsX5_grow := by decide +kernel
set_option maxRecDepth 20000 in
set_option maxHeartbeats 4000000 in
theorem c_X5_grow {l : Launch} {D : va_G} {ad : Nat → Nat} {cI cL : ClassId} (hfl : l.flags = flags0) (hok : adOK ad) (μ : Mem) : CtI l D ad cI cL yX5_grow wsX5_grow (RM 1 20) [.ref (ad 1)] μ (fun (r : Int32) (μ' : Mem) => r = b2i (decide (μ 1 0 < 16)) ∧ μ' = if μ 1 0 < 16 then mset μ 1 (upd (μ 1) 0 (μ 1 0 + 1)) else μ) := by
  refine ct_i (cc := cX5_grow) (maxL := 1) (own := RX5) .boolean hfl hok (by decide) rfl rfl rfl (Nat.le_of_ble_eq_true rfl) (fun p e s m below meth c C hr => ?_)
  refine go_lv (lv' := [some (.ref (ad 1))]) rfl ?_
  refine go_aload0 C (pc := 0) dX5_grow_0 ?_
  refine go_ciV0 C (pc := 1) obj_1 (c_X5_isFull C.fl C.ok _ ) gX5_grow_X5_isFull rfl rfl yok_X5_isFull ⟨rfl, rfl⟩ ⟨Nat.le_of_ble_eq_true rfl, Nat.le_of_ble_eq_true rfl⟩ (Nat.le_of_ble_eq_true rfl) ⟨Nat.zero_le _, Nat.zero_le _⟩ dX5_grow_1 (fun r1 μ1 hc1 => ?_)
  obtain ⟨rfl, hm1⟩ := hc1
  replace hm1 := hm1.symm
  subst hm1
  refine go_if_eq C (pc := 4) (tgt := 9) dX5_grow_4 (by decide) (fun h4 => ?_) (fun h4 => ?_)
  · refine go_aload0 C (pc := 9) dX5_grow_9 ?_
    refine go_dup C (pc := 10) rfl dX5_grow_10 ?_
    refine go_get C (pc := 11) 1 (by decide) rfl rfl 0 (by decide) rfl rfl hi_X5_grow_RX5 lk_X5_grow_9 dX5_grow_11 ?_
    refine go_iconst C (pc := 14) (v := 1) (by decide) dX5_grow_14 ?_
    refine go_iadd C (pc := 15) dX5_grow_15 ?_
    refine go_put C (pc := 16) 1 (by decide) rfl rfl 0 (by decide) rfl hi_X5_grow_RX5 lk_X5_grow_9 tyX5_ok nmX5 rfl rfl rfl (Nat.le_of_ble_eq_true rfl) rfl dX5_grow_16 ?_
    refine go_iconst C (pc := 19) (v := 1) (by decide) dX5_grow_19 ?_
    exact go_zret C hr dX5_grow_20 (by first | decide | exact b2i_01 _) (by rw [b2i_0] at h4; simp only [Bool.not_eq_false, Bool.not_eq_true, Bool.not_eq_eq_eq_not, Bool.not_true, Bool.not_false, decide_eq_false_iff_not, decide_eq_true_eq] at h4; simp [h4, b2i_false, b2i_true])
  · refine go_iconst C (pc := 7) (v := 0) (by decide) dX5_grow_7 ?_
    exact go_zret C hr dX5_grow_8 (by first | decide | exact b2i_01 _) (by rw [b2i_0] at h4; simp only [Bool.not_eq_false, Bool.not_eq_true, Bool.not_eq_eq_eq_not, Bool.not_true, Bool.not_false, decide_eq_false_iff_not, decide_eq_true_eq] at h4; simp [h4, b2i_false, b2i_true])

def tieB (c : Int32) (th : Nat → Int32) (p q : Int32) : Bool := hasB c p && (hasB c q && (!decide (p = q) && !bndB c th p q))
def tie1 (th : Nat → Int32) (p q : Int32) : Nat → Int32 := rowPut th 16 p (rowAt th 16 p ||| bitI q)
def unt1 (th : Nat → Int32) (p q : Int32) : Nat → Int32 := rowPut th 16 p (rowAt th 16 p &&& (bitI q ^^^ (-1)))
theorem mset_mset (μ : Mem) (k : Nat) (f g : Nat → Int32) : mset (mset μ k f) k g = mset μ k g := by
  funext j
  unfold mset
  split <;> rfl
theorem yok_X5_tie : yOK yX5_tie 2 := by unfold yOK; decide +kernel
theorem hi_X5_tie_RX5 : ∀ w ∈ wsX50, w ∈ wsX5_tie := by decide +kernel
theorem lk_X5_tie_23 : Cond.fieldLink RX5 23 "ThornCores$Thicket" "thorns" "LThornCores$Row;" ∈ wsX5_tie := by decide +kernel
theorem lw_X5_tie_s_X7_bit : Cond.static yX7_bit ∈ wsX5_tie := by decide +kernel
theorem lw_X5_tie_i_X7_bit : Cond.initialized RX7 ∈ wsX5_tie := by decide +kernel
set_option maxRecDepth 20000 in
set_option maxHeartbeats 4000000 in
theorem c_X5_tie {l : Launch} {D : va_G} {ad : Nat → Nat} {cI cL : ClassId} (hfl : l.flags = flags0) (hok : adOK ad) (μ : Mem) (p0 p1 : Int32) : CtI l D ad cI cL yX5_tie wsX5_tie (RM 2 43) [.ref (ad 1), .int p0, .int p1] μ (fun (r : Int32) (μ' : Mem) => r = b2i (tieB (μ 1 0) (μ 3) p0 p1) ∧ μ' = if tieB (μ 1 0) (μ 3) p0 p1 = true then mset μ 3 (tie1 (tie1 (μ 3) p0 p1) p1 p0) else μ) := by
  refine ct_i (cc := cX5_tie) (maxL := 3) (own := RX5) .boolean hfl hok (by decide) rfl rfl rfl (Nat.le_of_ble_eq_true rfl) (fun p e s m below meth c C hr => ?_)
  refine go_lv (lv' := [some (.ref (ad 1)), some (.int p0), some (.int p1)]) rfl ?_
  refine go_aload0 C (pc := 0) dX5_tie_0 ?_
  refine go_iload1 C (pc := 1) dX5_tie_1 ?_
  refine go_ciV1 C (pc := 2) obj_1 (c_X5_has C.fl C.ok _ _ ) gX5_tie_X5_has rfl rfl yok_X5_has ⟨rfl, rfl⟩ ⟨Nat.le_of_ble_eq_true rfl, Nat.le_of_ble_eq_true rfl⟩ (Nat.le_of_ble_eq_true rfl) ⟨Nat.zero_le _, Nat.zero_le _⟩ dX5_tie_2 (fun r1 μ1 hc1 => ?_)
  obtain ⟨rfl, hm1⟩ := hc1
  replace hm1 := hm1.symm
  subst hm1
  refine go_if_eq C (pc := 5) (tgt := 30) dX5_tie_5 (by decide) (fun h5 => ?_) (fun h5 => ?_)
  · refine go_iconst C (pc := 30) (v := 0) (by decide) dX5_tie_30 ?_
    exact go_zret C hr dX5_tie_31 (by first | decide | exact b2i_01 _) (by (try rw [b2i_0] at h5); (try rw [b2i_0] at h13); (try rw [b2i_0] at h27); simp only [tieB, mset_mset, mset_same, tie1, b2i_false, b2i_true, h5]; simp [b2i_false, b2i_true, h5])
  · refine go_aload0 C (pc := 8) dX5_tie_8 ?_
    refine go_iload2 C (pc := 9) dX5_tie_9 ?_
    refine go_ciV1 C (pc := 10) obj_1 (c_X5_has C.fl C.ok _ _ ) gX5_tie_X5_has rfl rfl yok_X5_has ⟨rfl, rfl⟩ ⟨Nat.le_of_ble_eq_true rfl, Nat.le_of_ble_eq_true rfl⟩ (Nat.le_of_ble_eq_true rfl) ⟨Nat.zero_le _, Nat.zero_le _⟩ dX5_tie_10 (fun r3 μ3 hc3 => ?_)
    obtain ⟨rfl, hm3⟩ := hc3
    replace hm3 := hm3.symm
    subst hm3
    refine go_if_eq C (pc := 13) (tgt := 30) dX5_tie_13 (by decide) (fun h13 => ?_) (fun h13 => ?_)
    · refine go_iconst C (pc := 30) (v := 0) (by decide) dX5_tie_30 ?_
      exact go_zret C hr dX5_tie_31 (by first | decide | exact b2i_01 _) (by (try rw [b2i_0] at h5); (try rw [b2i_0] at h13); (try rw [b2i_0] at h27); simp only [tieB, mset_mset, mset_same, tie1, b2i_false, b2i_true, h5, h13]; simp [b2i_false, b2i_true, h5, h13])
    · refine go_iload1 C (pc := 16) dX5_tie_16 ?_
      refine go_iload2 C (pc := 17) dX5_tie_17 ?_
      refine go_icmp_eq C (pc := 18) (tgt := 30) dX5_tie_18 (by decide) (fun h18 => ?_) (fun h18 => ?_)
      · refine go_iconst C (pc := 30) (v := 0) (by decide) dX5_tie_30 ?_
        exact go_zret C hr dX5_tie_31 (by first | decide | exact b2i_01 _) (by (try rw [b2i_0] at h5); (try rw [b2i_0] at h13); (try rw [b2i_0] at h27); simp only [tieB, mset_mset, mset_same, tie1, b2i_false, b2i_true, h5, h13, h18]; simp [b2i_false, b2i_true, h5, h13, h18])
      · refine go_aload0 C (pc := 21) dX5_tie_21 ?_
        refine go_iload1 C (pc := 22) dX5_tie_22 ?_
        refine go_iload2 C (pc := 23) dX5_tie_23 ?_
        refine go_ciV2 C (pc := 24) obj_1 (c_X5_isBound C.fl C.ok _ _ _ ) gX5_tie_X5_isBound rfl rfl yok_X5_isBound ⟨rfl, rfl⟩ ⟨Nat.le_of_ble_eq_true rfl, Nat.le_of_ble_eq_true rfl⟩ (Nat.le_of_ble_eq_true rfl) ⟨Nat.zero_le _, Nat.zero_le _⟩ dX5_tie_24 (fun r6 μ6 hc6 => ?_)
        obtain ⟨rfl, hm6⟩ := hc6
        replace hm6 := hm6.symm
        subst hm6
        refine go_if_eq C (pc := 27) (tgt := 32) dX5_tie_27 (by decide) (fun h27 => ?_) (fun h27 => ?_)
        · refine go_aload0 C (pc := 32) dX5_tie_32 ?_
          refine go_get C (pc := 33) 1 (by decide) rfl rfl 2 (by decide) rfl rfl hi_X5_tie_RX5 lk_X5_tie_23 dX5_tie_33 ?_
          refine go_iload1 C (pc := 36) dX5_tie_36 ?_
          refine go_aload0 C (pc := 37) dX5_tie_37 ?_
          refine go_get C (pc := 38) 1 (by decide) rfl rfl 2 (by decide) rfl rfl hi_X5_tie_RX5 lk_X5_tie_23 dX5_tie_38 ?_
          refine go_iload1 C (pc := 41) dX5_tie_41 ?_
          refine go_ciV1 C (pc := 42) obj_2 (c_X3_at C.fl C.ok _ 2 16 row_2 _  ) gX5_tie_X3_at rfl rfl yok_X3_at ⟨rfl, rfl⟩ ⟨Nat.le_of_ble_eq_true rfl, Nat.le_of_ble_eq_true rfl⟩ (Nat.le_of_ble_eq_true rfl) ⟨Nat.zero_le _, Nat.zero_le _⟩ dX5_tie_42 (fun r8 μ8 hc8 => ?_)
          obtain ⟨rfl, hm8⟩ := hc8
          replace hm8 := hm8.symm
          subst hm8
          refine go_iload2 C (pc := 45) dX5_tie_45 ?_
          refine go_ciSN1 C (pc := 46) (host := "ThornCores") (c_X7_bit C.fl C.ok _ _ ) gX5_tie_X7_bit_n27 rfl (by decide +kernel) lw_X5_tie_s_X7_bit lw_X5_tie_i_X7_bit yok_X7_bit ⟨rfl, rfl⟩ ⟨Nat.le_of_ble_eq_true rfl, Nat.le_of_ble_eq_true rfl⟩ (Nat.le_of_ble_eq_true rfl) ⟨Nat.zero_le _, Nat.zero_le _⟩ dX5_tie_46 (fun r9 μ9 hc9 => ?_)
          obtain ⟨rfl, hm9⟩ := hc9
          replace hm9 := hm9.symm
          subst hm9
          refine go_ior C (pc := 49) dX5_tie_49 ?_
          refine go_cvV2 C (pc := 50) obj_2 (c_X3_put C.fl C.ok _ 2 16 row_2 _ _  ) gX5_tie_X3_put rfl rfl yok_X3_put ⟨rfl, rfl⟩ ⟨Nat.le_of_ble_eq_true rfl, Nat.le_of_ble_eq_true rfl⟩ (Nat.le_of_ble_eq_true rfl) ⟨Nat.zero_le _, Nat.zero_le _⟩ dX5_tie_50 (fun μ10 hc10 => ?_)
          replace hc10 := hc10.symm
          subst hc10
          refine go_aload0 C (pc := 53) dX5_tie_53 ?_
          refine go_get C (pc := 54) 1 (by decide) rfl rfl 2 (by decide) rfl rfl hi_X5_tie_RX5 lk_X5_tie_23 dX5_tie_54 ?_
          refine go_iload2 C (pc := 57) dX5_tie_57 ?_
          refine go_aload0 C (pc := 58) dX5_tie_58 ?_
          refine go_get C (pc := 59) 1 (by decide) rfl rfl 2 (by decide) rfl rfl hi_X5_tie_RX5 lk_X5_tie_23 dX5_tie_59 ?_
          refine go_iload2 C (pc := 62) dX5_tie_62 ?_
          refine go_ciV1 C (pc := 63) obj_2 (c_X3_at C.fl C.ok _ 2 16 row_2 _  ) gX5_tie_X3_at rfl rfl yok_X3_at ⟨rfl, rfl⟩ ⟨Nat.le_of_ble_eq_true rfl, Nat.le_of_ble_eq_true rfl⟩ (Nat.le_of_ble_eq_true rfl) ⟨Nat.zero_le _, Nat.zero_le _⟩ dX5_tie_63 (fun r11 μ11 hc11 => ?_)
          obtain ⟨rfl, hm11⟩ := hc11
          replace hm11 := hm11.symm
          subst hm11
          refine go_iload1 C (pc := 66) dX5_tie_66 ?_
          refine go_ciSN1 C (pc := 67) (host := "ThornCores") (c_X7_bit C.fl C.ok _ _ ) gX5_tie_X7_bit_n27 rfl (by decide +kernel) lw_X5_tie_s_X7_bit lw_X5_tie_i_X7_bit yok_X7_bit ⟨rfl, rfl⟩ ⟨Nat.le_of_ble_eq_true rfl, Nat.le_of_ble_eq_true rfl⟩ (Nat.le_of_ble_eq_true rfl) ⟨Nat.zero_le _, Nat.zero_le _⟩ dX5_tie_67 (fun r12 μ12 hc12 => ?_)
          obtain ⟨rfl, hm12⟩ := hc12
          replace hm12 := hm12.symm
          subst hm12
          refine go_ior C (pc := 70) dX5_tie_70 ?_
          refine go_cvV2 C (pc := 71) obj_2 (c_X3_put C.fl C.ok _ 2 16 row_2 _ _  ) gX5_tie_X3_put rfl rfl yok_X3_put ⟨rfl, rfl⟩ ⟨Nat.le_of_ble_eq_true rfl, Nat.le_of_ble_eq_true rfl⟩ (Nat.le_of_ble_eq_true rfl) ⟨Nat.zero_le _, Nat.zero_le _⟩ dX5_tie_71 (fun μ13 hc13 => ?_)
          replace hc13 := hc13.symm
          subst hc13
          refine go_iconst C (pc := 74) (v := 1) (by decide) dX5_tie_74 ?_
          exact go_zret C hr dX5_tie_75 (by first | decide | exact b2i_01 _) (by (try rw [b2i_0] at h5); (try rw [b2i_0] at h13); (try rw [b2i_0] at h27); simp only [tieB, mset_mset, mset_same, tie1, b2i_false, b2i_true, h5, h13, h18, h27]; simp [b2i_false, b2i_true, h5, h13, h18, h27])
        · refine go_iconst C (pc := 30) (v := 0) (by decide) dX5_tie_30 ?_
          exact go_zret C hr dX5_tie_31 (by first | decide | exact b2i_01 _) (by (try rw [b2i_0] at h5); (try rw [b2i_0] at h13); (try rw [b2i_0] at h27); simp only [tieB, mset_mset, mset_same, tie1, b2i_false, b2i_true, h5, h13, h18, h27]; simp [b2i_false, b2i_true, h5, h13, h18, h27])

theorem yok_X5_untie : yOK yX5_untie 2 := by unfold yOK; decide +kernel
theorem hi_X5_untie_RX5 : ∀ w ∈ wsX50, w ∈ wsX5_untie := by decide +kernel
theorem lk_X5_untie_23 : Cond.fieldLink RX5 23 "ThornCores$Thicket" "thorns" "LThornCores$Row;" ∈ wsX5_untie := by decide +kernel
theorem lw_X5_untie_s_X7_bit : Cond.static yX7_bit ∈ wsX5_untie := by decide +kernel
theorem lw_X5_untie_i_X7_bit : Cond.initialized RX7 ∈ wsX5_untie := by decide +kernel
set_option maxRecDepth 20000 in
set_option maxHeartbeats 4000000 in
theorem c_X5_untie {l : Launch} {D : va_G} {ad : Nat → Nat} {cI cL : ClassId} (hfl : l.flags = flags0) (hok : adOK ad) (μ : Mem) (p0 p1 : Int32) : CtI l D ad cI cL yX5_untie wsX5_untie (RM 2 43) [.ref (ad 1), .int p0, .int p1] μ (fun (r : Int32) (μ' : Mem) => r = b2i (bndB (μ 1 0) (μ 3) p0 p1) ∧ μ' = if bndB (μ 1 0) (μ 3) p0 p1 = true then mset μ 3 (unt1 (unt1 (μ 3) p0 p1) p1 p0) else μ) := by
  refine ct_i (cc := cX5_untie) (maxL := 3) (own := RX5) .boolean hfl hok (by decide) rfl rfl rfl (Nat.le_of_ble_eq_true rfl) (fun p e s m below meth c C hr => ?_)
  refine go_lv (lv' := [some (.ref (ad 1)), some (.int p0), some (.int p1)]) rfl ?_
  refine go_aload0 C (pc := 0) dX5_untie_0 ?_
  refine go_iload1 C (pc := 1) dX5_untie_1 ?_
  refine go_iload2 C (pc := 2) dX5_untie_2 ?_
  refine go_ciV2 C (pc := 3) obj_1 (c_X5_isBound C.fl C.ok _ _ _ ) gX5_untie_X5_isBound rfl rfl yok_X5_isBound ⟨rfl, rfl⟩ ⟨Nat.le_of_ble_eq_true rfl, Nat.le_of_ble_eq_true rfl⟩ (Nat.le_of_ble_eq_true rfl) ⟨Nat.zero_le _, Nat.zero_le _⟩ dX5_untie_3 (fun r1 μ1 hc1 => ?_)
  obtain ⟨rfl, hm1⟩ := hc1
  replace hm1 := hm1.symm
  subst hm1
  refine go_if_ne C (pc := 6) (tgt := 11) dX5_untie_6 (by decide) (fun h6 => ?_) (fun h6 => ?_)
  · refine go_aload0 C (pc := 11) dX5_untie_11 ?_
    refine go_get C (pc := 12) 1 (by decide) rfl rfl 2 (by decide) rfl rfl hi_X5_untie_RX5 lk_X5_untie_23 dX5_untie_12 ?_
    refine go_iload1 C (pc := 15) dX5_untie_15 ?_
    refine go_aload0 C (pc := 16) dX5_untie_16 ?_
    refine go_get C (pc := 17) 1 (by decide) rfl rfl 2 (by decide) rfl rfl hi_X5_untie_RX5 lk_X5_untie_23 dX5_untie_17 ?_
    refine go_iload1 C (pc := 20) dX5_untie_20 ?_
    refine go_ciV1 C (pc := 21) obj_2 (c_X3_at C.fl C.ok _ 2 16 row_2 _  ) gX5_untie_X3_at rfl rfl yok_X3_at ⟨rfl, rfl⟩ ⟨Nat.le_of_ble_eq_true rfl, Nat.le_of_ble_eq_true rfl⟩ (Nat.le_of_ble_eq_true rfl) ⟨Nat.zero_le _, Nat.zero_le _⟩ dX5_untie_21 (fun r3 μ3 hc3 => ?_)
    obtain ⟨rfl, hm3⟩ := hc3
    replace hm3 := hm3.symm
    subst hm3
    refine go_iload2 C (pc := 24) dX5_untie_24 ?_
    refine go_ciSN1 C (pc := 25) (host := "ThornCores") (c_X7_bit C.fl C.ok _ _ ) gX5_untie_X7_bit_n27 rfl (by decide +kernel) lw_X5_untie_s_X7_bit lw_X5_untie_i_X7_bit yok_X7_bit ⟨rfl, rfl⟩ ⟨Nat.le_of_ble_eq_true rfl, Nat.le_of_ble_eq_true rfl⟩ (Nat.le_of_ble_eq_true rfl) ⟨Nat.zero_le _, Nat.zero_le _⟩ dX5_untie_25 (fun r4 μ4 hc4 => ?_)
    obtain ⟨rfl, hm4⟩ := hc4
    replace hm4 := hm4.symm
    subst hm4
    refine go_iconst C (pc := 28) (v := -1) (by decide) dX5_untie_28 ?_
    refine go_ixor C (pc := 29) dX5_untie_29 ?_
    refine go_iand C (pc := 30) dX5_untie_30 ?_
    refine go_cvV2 C (pc := 31) obj_2 (c_X3_put C.fl C.ok _ 2 16 row_2 _ _  ) gX5_untie_X3_put rfl rfl yok_X3_put ⟨rfl, rfl⟩ ⟨Nat.le_of_ble_eq_true rfl, Nat.le_of_ble_eq_true rfl⟩ (Nat.le_of_ble_eq_true rfl) ⟨Nat.zero_le _, Nat.zero_le _⟩ dX5_untie_31 (fun μ5 hc5 => ?_)
    replace hc5 := hc5.symm
    subst hc5
    refine go_aload0 C (pc := 34) dX5_untie_34 ?_
    refine go_get C (pc := 35) 1 (by decide) rfl rfl 2 (by decide) rfl rfl hi_X5_untie_RX5 lk_X5_untie_23 dX5_untie_35 ?_
    refine go_iload2 C (pc := 38) dX5_untie_38 ?_
    refine go_aload0 C (pc := 39) dX5_untie_39 ?_
    refine go_get C (pc := 40) 1 (by decide) rfl rfl 2 (by decide) rfl rfl hi_X5_untie_RX5 lk_X5_untie_23 dX5_untie_40 ?_
    refine go_iload2 C (pc := 43) dX5_untie_43 ?_
    refine go_ciV1 C (pc := 44) obj_2 (c_X3_at C.fl C.ok _ 2 16 row_2 _  ) gX5_untie_X3_at rfl rfl yok_X3_at ⟨rfl, rfl⟩ ⟨Nat.le_of_ble_eq_true rfl, Nat.le_of_ble_eq_true rfl⟩ (Nat.le_of_ble_eq_true rfl) ⟨Nat.zero_le _, Nat.zero_le _⟩ dX5_untie_44 (fun r6 μ6 hc6 => ?_)
    obtain ⟨rfl, hm6⟩ := hc6
    replace hm6 := hm6.symm
    subst hm6
    refine go_iload1 C (pc := 47) dX5_untie_47 ?_
    refine go_ciSN1 C (pc := 48) (host := "ThornCores") (c_X7_bit C.fl C.ok _ _ ) gX5_untie_X7_bit_n27 rfl (by decide +kernel) lw_X5_untie_s_X7_bit lw_X5_untie_i_X7_bit yok_X7_bit ⟨rfl, rfl⟩ ⟨Nat.le_of_ble_eq_true rfl, Nat.le_of_ble_eq_true rfl⟩ (Nat.le_of_ble_eq_true rfl) ⟨Nat.zero_le _, Nat.zero_le _⟩ dX5_untie_48 (fun r7 μ7 hc7 => ?_)
    obtain ⟨rfl, hm7⟩ := hc7
    replace hm7 := hm7.symm
    subst hm7
    refine go_iconst C (pc := 51) (v := -1) (by decide) dX5_untie_51 ?_
    refine go_ixor C (pc := 52) dX5_untie_52 ?_
    refine go_iand C (pc := 53) dX5_untie_53 ?_
    refine go_cvV2 C (pc := 54) obj_2 (c_X3_put C.fl C.ok _ 2 16 row_2 _ _  ) gX5_untie_X3_put rfl rfl yok_X3_put ⟨rfl, rfl⟩ ⟨Nat.le_of_ble_eq_true rfl, Nat.le_of_ble_eq_true rfl⟩ (Nat.le_of_ble_eq_true rfl) ⟨Nat.zero_le _, Nat.zero_le _⟩ dX5_untie_54 (fun μ8 hc8 => ?_)
    replace hc8 := hc8.symm
    subst hc8
    refine go_iconst C (pc := 57) (v := 1) (by decide) dX5_untie_57 ?_
    exact go_zret C hr dX5_untie_58 (by first | decide | exact b2i_01 _) (by (rw [b2i_0] at h6); simp [mset_mset, mset_same, unt1, b2i_false, b2i_true, h6])
  · refine go_iconst C (pc := 9) (v := 0) (by decide) dX5_untie_9 ?_
    exact go_zret C hr dX5_untie_10 (by first | decide | exact b2i_01 _) (by (rw [b2i_0] at h6); simp [mset_mset, mset_same, unt1, b2i_false, b2i_true, h6])

theorem yok_X5_turnProp : yOK yX5_turnProp 1 := by unfold yOK; decide +kernel
theorem hi_X5_turnProp_RX5 : ∀ w ∈ wsX50, w ∈ wsX5_turnProp := by decide +kernel
theorem lk_X5_turnProp_15 : Cond.fieldLink RX5 15 "ThornCores$Thicket" "props" "I" ∈ wsX5_turnProp := by decide +kernel
theorem lw_X5_turnProp_s_X7_bit : Cond.static yX7_bit ∈ wsX5_turnProp := by decide +kernel
theorem lw_X5_turnProp_i_X7_bit : Cond.initialized RX7 ∈ wsX5_turnProp := by decide +kernel
set_option maxRecDepth 20000 in
set_option maxHeartbeats 4000000 in
theorem c_X5_turnProp {l : Launch} {D : va_G} {ad : Nat → Nat} {cI cL : ClassId} (hfl : l.flags = flags0) (hok : adOK ad) (μ : Mem) (p0 : Int32) : CtI l D ad cI cL yX5_turnProp wsX5_turnProp (RM 1 21) [.ref (ad 1), .int p0] μ (fun (r : Int32) (μ' : Mem) => r = b2i (hasB (μ 1 0) p0) ∧ μ' = if hasB (μ 1 0) p0 = true then mset μ 1 (upd (μ 1) 1 (μ 1 1 ^^^ bitI p0)) else μ) := by
  refine ct_i (cc := cX5_turnProp) (maxL := 2) (own := RX5) .boolean hfl hok (by decide) rfl rfl rfl (Nat.le_of_ble_eq_true rfl) (fun p e s m below meth c C hr => ?_)
  refine go_lv (lv' := [some (.ref (ad 1)), some (.int p0)]) rfl ?_
  refine go_aload0 C (pc := 0) dX5_turnProp_0 ?_
  refine go_iload1 C (pc := 1) dX5_turnProp_1 ?_
  refine go_ciV1 C (pc := 2) obj_1 (c_X5_has C.fl C.ok _ _ ) gX5_turnProp_X5_has rfl rfl yok_X5_has ⟨rfl, rfl⟩ ⟨Nat.le_of_ble_eq_true rfl, Nat.le_of_ble_eq_true rfl⟩ (Nat.le_of_ble_eq_true rfl) ⟨Nat.zero_le _, Nat.zero_le _⟩ dX5_turnProp_2 (fun r1 μ1 hc1 => ?_)
  obtain ⟨rfl, hm1⟩ := hc1
  replace hm1 := hm1.symm
  subst hm1
  refine go_if_ne C (pc := 5) (tgt := 10) dX5_turnProp_5 (by decide) (fun h5 => ?_) (fun h5 => ?_)
  · refine go_aload0 C (pc := 10) dX5_turnProp_10 ?_
    refine go_dup C (pc := 11) rfl dX5_turnProp_11 ?_
    refine go_get C (pc := 12) 1 (by decide) rfl rfl 1 (by decide) rfl rfl hi_X5_turnProp_RX5 lk_X5_turnProp_15 dX5_turnProp_12 ?_
    refine go_iload1 C (pc := 15) dX5_turnProp_15 ?_
    refine go_ciSN1 C (pc := 16) (host := "ThornCores") (c_X7_bit C.fl C.ok _ _ ) gX5_turnProp_X7_bit_n27 rfl (by decide +kernel) lw_X5_turnProp_s_X7_bit lw_X5_turnProp_i_X7_bit yok_X7_bit ⟨rfl, rfl⟩ ⟨Nat.le_of_ble_eq_true rfl, Nat.le_of_ble_eq_true rfl⟩ (Nat.le_of_ble_eq_true rfl) ⟨Nat.zero_le _, Nat.zero_le _⟩ dX5_turnProp_16 (fun r3 μ3 hc3 => ?_)
    obtain ⟨rfl, hm3⟩ := hc3
    replace hm3 := hm3.symm
    subst hm3
    refine go_ixor C (pc := 19) dX5_turnProp_19 ?_
    refine go_put C (pc := 20) 1 (by decide) rfl rfl 1 (by decide) rfl hi_X5_turnProp_RX5 lk_X5_turnProp_15 tyX5_ok nmX5 rfl rfl rfl (Nat.le_of_ble_eq_true rfl) rfl dX5_turnProp_20 ?_
    refine go_iconst C (pc := 23) (v := 1) (by decide) dX5_turnProp_23 ?_
    exact go_zret C hr dX5_turnProp_24 (by first | decide | exact b2i_01 _) (by (rw [b2i_0] at h5); simp [b2i_false, b2i_true, h5])
  · refine go_iconst C (pc := 8) (v := 0) (by decide) dX5_turnProp_8 ?_
    exact go_zret C hr dX5_turnProp_9 (by first | decide | exact b2i_01 _) (by (rw [b2i_0] at h5); simp [b2i_false, b2i_true, h5])

def closeG (x p : Int32) : Int32 := (x &&& (bitI p - 1)) ||| ((x.toUInt32 >>> ((1 : Int32).toUInt32 &&& Int32.toUInt32 31)).toInt32 &&& ((bitI p - 1) ^^^ (-1)))
theorem yok_X5_closeGap : yOK yX5_closeGap 2 := by unfold yOK; decide +kernel
theorem lw_X5_closeGap_s_X7_bit : Cond.static yX7_bit ∈ wsX5_closeGap := by decide +kernel
theorem lw_X5_closeGap_i_X7_bit : Cond.initialized RX7 ∈ wsX5_closeGap := by decide +kernel
set_option maxRecDepth 20000 in
set_option maxHeartbeats 4000000 in
theorem c_X5_closeGap {l : Launch} {D : va_G} {ad : Nat → Nat} {cI cL : ClassId} (hfl : l.flags = flags0) (hok : adOK ad) (μ : Mem) (p0 p1 : Int32) : CtI l D ad cI cL yX5_closeGap wsX5_closeGap (RM 1 20) [.int p0, .int p1] μ (fun (r : Int32) (μ' : Mem) => r = closeG p0 p1 ∧ μ' = μ) := by
  refine ct_i (cc := cX5_closeGap) (maxL := 3) (own := RX5) .int hfl hok (by decide) rfl rfl rfl (Nat.le_of_ble_eq_true rfl) (fun p e s m below meth c C hr => ?_)
  refine go_lv (lv' := [some (.int p0), some (.int p1), none]) rfl ?_
  refine go_iload1 C (pc := 0) dX5_closeGap_0 ?_
  refine go_ciSN1 C (pc := 1) (host := "ThornCores") (c_X7_bit C.fl C.ok _ _ ) gX5_closeGap_X7_bit_n27 rfl (by decide +kernel) lw_X5_closeGap_s_X7_bit lw_X5_closeGap_i_X7_bit yok_X7_bit ⟨rfl, rfl⟩ ⟨Nat.le_of_ble_eq_true rfl, Nat.le_of_ble_eq_true rfl⟩ (Nat.le_of_ble_eq_true rfl) ⟨Nat.zero_le _, Nat.zero_le _⟩ dX5_closeGap_1 (fun r1 μ1 hc1 => ?_)
  obtain ⟨rfl, hm1⟩ := hc1
  replace hm1 := hm1.symm
  subst hm1
  refine go_iconst C (pc := 4) (v := 1) (by decide) dX5_closeGap_4 ?_
  refine go_isub C (pc := 5) dX5_closeGap_5 ?_
  refine go_istore2 C (pc := 6) dX5_closeGap_6 ?_
  refine go_iload0 C (pc := 7) dX5_closeGap_7 ?_
  refine go_iload2 C (pc := 8) dX5_closeGap_8 ?_
  refine go_iand C (pc := 9) dX5_closeGap_9 ?_
  refine go_iload0 C (pc := 10) dX5_closeGap_10 ?_
  refine go_iconst C (pc := 11) (v := 1) (by decide) dX5_closeGap_11 ?_
  refine go_iushr C (pc := 12) dX5_closeGap_12 ?_
  refine go_iload2 C (pc := 13) dX5_closeGap_13 ?_
  refine go_iconst C (pc := 14) (v := -1) (by decide) dX5_closeGap_14 ?_
  refine go_ixor C (pc := 15) dX5_closeGap_15 ?_
  refine go_iand C (pc := 16) dX5_closeGap_16 ?_
  refine go_ior C (pc := 17) dX5_closeGap_17 ?_
  exact go_iret C hr dX5_closeGap_18 (⟨rfl, rfl⟩)

