/-! ===== ThornCores$Text ===== -/
def nameB (x : Int32) : Bool := !decide (x < 97) && !decide (112 < x)
/-- what is awaited behind the first sign of a change -/
def aft0 (x : Int32) : Nat := if x = 43 then 4 else if x = 33 then 3 else if nameB x = true then 1 else 5
/-- what is awaited behind the sign at i, if s was awaited there -/
def aftN (c : Nat → Int32) (s i : Nat) : Nat :=
  if s = 0 then aft0 (c i)
  else if s = 1 then (if c i = 45 ∨ c i = 47 then 2 else 5)
  else if s = 2 then (if nameB (c i) = true ∧ c i ≠ c (i - 2) then 4 else 5)
  else if s = 3 then (if nameB (c i) = true then 4 else 5)
  else if s = 4 then (if c i = 44 then 0 else 5)
  else 5
def dfa (c : Nat → Int32) : Nat → Nat
  | 0 => 0
  | i + 1 => aftN c (dfa c i) i
theorem aft_le (c : Nat → Int32) (s i : Nat) : aftN c s i ≤ 5 := by
  unfold aftN aft0
  repeat' split
  all_goals omega
theorem dfa_le (c : Nat → Int32) : ∀ i, dfa c i ≤ 5
  | 0 => by show 0 ≤ 5; decide
  | i + 1 => aft_le c _ i
/-- a name's second: two signs were there before -/
theorem dfa_2 (c : Nat → Int32) : ∀ i, dfa c i = 2 → 2 ≤ i
  | 0, h => by cases h
  | 1, h => by
    exfalso
    have : aft0 (c 0) = 2 := h
    unfold aft0 at this
    repeat' split at this
    all_goals omega
  | i + 2, _ => by omega
theorem yok_X4_isFull : yOK yX4_isFull 0 := by unfold yOK; decide +kernel
theorem hi_X4_isFull_RX4 : ∀ w ∈ wsX40, w ∈ wsX4_isFull := by decide +kernel
theorem lk_X4_isFull_20 : Cond.fieldLink RX4 20 "ThornCores$Text" "length" "I" ∈ wsX4_isFull := by decide +kernel
set_option maxRecDepth 20000 in
set_option maxHeartbeats 4000000 in
theorem c_X4_isFull {l : Launch} {D : va_G} {ad : Nat → Nat} {cI cL : ClassId} (hfl : l.flags = flags0) (hok : adOK ad) (μ : Mem) : CtI l D ad cI cL yX4_isFull wsX4_isFull (RM 0 0) [.ref (ad 4)] μ (fun (r : Int32) (μ' : Mem) => r = b2i (!decide (μ 4 1 < 60)) ∧ μ' = μ) := by
  refine ct_i (cc := cX4_isFull) (maxL := 1) (own := RX4) .boolean hfl hok (by decide) rfl rfl rfl (Nat.le_of_ble_eq_true rfl) (fun p e s m below meth c C hr => ?_)
  refine go_lv (lv' := [some (.ref (ad 4))]) rfl ?_
  refine go_aload0 C (pc := 0) dX4_isFull_0 ?_
  refine go_get C (pc := 1) 4 (by decide) rfl rfl 1 (by decide) rfl rfl hi_X4_isFull_RX4 lk_X4_isFull_20 dX4_isFull_1 ?_
  refine go_bipush C (pc := 4) (v := 60) (by decide) dX4_isFull_4 ?_
  refine go_icmp_lt C (pc := 6) (tgt := 13) dX4_isFull_6 (by decide) (fun h6 => ?_) (fun h6 => ?_)
  · refine go_iconst C (pc := 13) (v := 0) (by decide) dX4_isFull_13 ?_
    exact go_zret C hr dX4_isFull_14 (by first | decide | exact b2i_01 _) (⟨by simp [h6, b2i_false, b2i_true], rfl⟩)
  · refine go_iconst C (pc := 9) (v := 1) (by decide) dX4_isFull_9 ?_
    refine go_goto C (pc := 10) (tgt := 14) dX4_isFull_10 (by decide) ?_
    exact go_zret C hr dX4_isFull_14 (by first | decide | exact b2i_01 _) (⟨by simp [h6, b2i_false, b2i_true], rfl⟩)

theorem yok_X4_empty : yOK yX4_empty 0 := by unfold yOK; decide +kernel
theorem hi_X4_empty_RX4 : ∀ w ∈ wsX40, w ∈ wsX4_empty := by decide +kernel
theorem lk_X4_empty_20 : Cond.fieldLink RX4 20 "ThornCores$Text" "length" "I" ∈ wsX4_empty := by decide +kernel
set_option maxRecDepth 20000 in
set_option maxHeartbeats 4000000 in
theorem c_X4_empty {l : Launch} {D : va_G} {ad : Nat → Nat} {cI cL : ClassId} (hfl : l.flags = flags0) (hok : adOK ad) (μ : Mem) : CtV l D ad cI cL yX4_empty wsX4_empty (RM 0 0) [.ref (ad 4)] μ (fun (μ' : Mem) => μ' = mset μ 4 (upd (μ 4) 1 0)) := by
  refine ct_v (cc := cX4_empty) (maxL := 1) (own := RX4) hfl hok (by decide) rfl rfl rfl (Nat.le_of_ble_eq_true rfl) (fun p e s m below meth c C hr => ?_)
  refine go_lv (lv' := [some (.ref (ad 4))]) rfl ?_
  refine go_aload0 C (pc := 0) dX4_empty_0 ?_
  refine go_iconst C (pc := 1) (v := 0) (by decide) dX4_empty_1 ?_
  refine go_put C (pc := 2) 4 (by decide) rfl rfl 1 (by decide) rfl hi_X4_empty_RX4 lk_X4_empty_20 tyX4_ok nmX4 rfl rfl rfl (Nat.le_of_ble_eq_true rfl) rfl dX4_empty_2 ?_
  exact go_vret C hr dX4_empty_5 (rfl)

theorem yok_X4_isName : yOK yX4_isName 1 := by unfold yOK; decide +kernel
set_option maxRecDepth 20000 in
set_option maxHeartbeats 4000000 in
theorem c_X4_isName {l : Launch} {D : va_G} {ad : Nat → Nat} {cI cL : ClassId} (hfl : l.flags = flags0) (hok : adOK ad) (μ : Mem) (x : Int32) : CtI l D ad cI cL yX4_isName wsX4_isName (RM 0 0) [.int x] μ (fun (r : Int32) (μ' : Mem) => r = b2i (nameB x) ∧ μ' = μ) := by
  refine ct_i (cc := cX4_isName) (maxL := 1) (own := RX4) .boolean hfl hok (by decide) rfl rfl rfl (Nat.le_of_ble_eq_true rfl) (fun p e s m below meth c C hr => ?_)
  refine go_lv (lv' := [some (.int x)]) rfl ?_
  refine go_iload0 C (pc := 0) dX4_isName_0 ?_
  refine go_bipush C (pc := 1) (v := 97) (by decide) dX4_isName_1 ?_
  refine go_icmp_lt C (pc := 3) (tgt := 16) dX4_isName_3 (by decide) (fun h3 => ?_) (fun h3 => ?_)
  · refine go_iconst C (pc := 16) (v := 0) (by decide) dX4_isName_16 ?_
    exact go_zret C hr dX4_isName_17 (by first | decide | exact b2i_01 _) (⟨by simp [nameB, h3, b2i_false, b2i_true], rfl⟩)
  · refine go_iload0 C (pc := 6) dX4_isName_6 ?_
    refine go_bipush C (pc := 7) (v := 112) (by decide) dX4_isName_7 ?_
    refine go_icmp_gt C (pc := 9) (tgt := 16) dX4_isName_9 (by decide) (fun h9 => ?_) (fun h9 => ?_)
    · refine go_iconst C (pc := 16) (v := 0) (by decide) dX4_isName_16 ?_
      exact go_zret C hr dX4_isName_17 (by first | decide | exact b2i_01 _) (⟨by simp [nameB, h3, h9, b2i_false, b2i_true], rfl⟩)
    · refine go_iconst C (pc := 12) (v := 1) (by decide) dX4_isName_12 ?_
      refine go_goto C (pc := 13) (tgt := 17) dX4_isName_13 (by decide) ?_
      exact go_zret C hr dX4_isName_17 (by first | decide | exact b2i_01 _) (⟨by simp [nameB, h3, h9, b2i_false, b2i_true], rfl⟩)

theorem yok_X4_named : yOK yX4_named 1 := by unfold yOK; decide +kernel
theorem hi_X4_named_RX4 : ∀ w ∈ wsX40, w ∈ wsX4_named := by decide +kernel
theorem lk_X4_named_14 : Cond.fieldLink RX4 14 "ThornCores$Text" "characters" "LThornCores$Row;" ∈ wsX4_named := by decide +kernel
set_option maxRecDepth 20000 in
set_option maxHeartbeats 4000000 in
theorem c_X4_named {l : Launch} {D : va_G} {ad : Nat → Nat} {cI cL : ClassId} (hfl : l.flags = flags0) (hok : adOK ad) (μ : Mem) (i : Nat) (hi : i < 60) : CtI l D ad cI cL yX4_named wsX4_named (RM 1 21) [.ref (ad 4), .int (nI i)] μ (fun (r : Int32) (μ' : Mem) => r = μ 6 i - 97 ∧ μ' = μ) := by
  refine ct_i (cc := cX4_named) (maxL := 2) (own := RX4) .int hfl hok (by decide) rfl rfl rfl (Nat.le_of_ble_eq_true rfl) (fun p e s m below meth c C hr => ?_)
  refine go_lv (lv' := [some (.ref (ad 4)), some (.int (nI i))]) rfl ?_
  refine go_aload0 C (pc := 0) dX4_named_0 ?_
  refine go_get C (pc := 1) 4 (by decide) rfl rfl 0 (by decide) rfl rfl hi_X4_named_RX4 lk_X4_named_14 dX4_named_1 ?_
  refine go_iload1 C (pc := 4) dX4_named_4 ?_
  refine go_ciV1 C (pc := 5) obj_5 (c_X3_atN C.fl C.ok _ 5 60 row_5 _  hi) gX4_named_X3_at rfl rfl yok_X3_at ⟨rfl, rfl⟩ ⟨Nat.le_of_ble_eq_true rfl, Nat.le_of_ble_eq_true rfl⟩ (Nat.le_of_ble_eq_true rfl) ⟨Nat.zero_le _, Nat.zero_le _⟩ dX4_named_5 (fun r1 μ1 hc1 => ?_)
  obtain ⟨rfl, hm1⟩ := hc1
  replace hm1 := hm1.symm
  subst hm1
  refine go_bipush C (pc := 8) (v := 97) (by decide) dX4_named_8 ?_
  refine go_isub C (pc := 10) dX4_named_10 ?_
  exact go_iret C hr dX4_named_11 (⟨rfl, rfl⟩)

theorem yok_X4_add : yOK yX4_add 1 := by unfold yOK; decide +kernel
theorem hi_X4_add_RX4 : ∀ w ∈ wsX40, w ∈ wsX4_add := by decide +kernel
theorem lk_X4_add_14 : Cond.fieldLink RX4 14 "ThornCores$Text" "characters" "LThornCores$Row;" ∈ wsX4_add := by decide +kernel
theorem lk_X4_add_20 : Cond.fieldLink RX4 20 "ThornCores$Text" "length" "I" ∈ wsX4_add := by decide +kernel
set_option maxRecDepth 20000 in
set_option maxHeartbeats 4000000 in
theorem c_X4_add {l : Launch} {D : va_G} {ad : Nat → Nat} {cI cL : ClassId} (hfl : l.flags = flags0) (hok : adOK ad) (μ : Mem) (w : Nat) (x : Int32) (hl : μ 4 1 = nI w) (hw : w < 60) : CtV l D ad cI cL yX4_add wsX4_add (RM 1 22) [.ref (ad 4), .int x] μ (fun (μ' : Mem) => μ' = mset (mset μ 6 (upd (μ 6) w x)) 4 (upd (μ 4) 1 (nI (w + 1)))) := by
  refine ct_v (cc := cX4_add) (maxL := 2) (own := RX4) hfl hok (by decide) rfl rfl rfl (Nat.le_of_ble_eq_true rfl) (fun p e s m below meth c C hr => ?_)
  refine go_lv (lv' := [some (.ref (ad 4)), some (.int x)]) rfl ?_
  refine go_aload0 C (pc := 0) dX4_add_0 ?_
  refine go_ciV0 C (pc := 1) obj_4 (c_X4_isFull C.fl C.ok _ ) gX4_add_X4_isFull rfl rfl yok_X4_isFull ⟨rfl, rfl⟩ ⟨Nat.le_of_ble_eq_true rfl, Nat.le_of_ble_eq_true rfl⟩ (Nat.le_of_ble_eq_true rfl) ⟨Nat.zero_le _, Nat.zero_le _⟩ dX4_add_1 (fun r1 μ1 hc1 => ?_)
  obtain ⟨rfl, hm1⟩ := hc1
  replace hm1 := hm1.symm
  subst hm1
  refine go_if_ne C (pc := 4) (tgt := 29) dX4_add_4 (by decide) (fun h4 => ?_) (fun h4 => ?_)
  · exact absurd (show (!decide (μ 4 1 < 60)) = false by rw [hl, show (60 : Int32) = nI 60 from by decide +kernel, decide_eq_true (nI_lt hw (by decide))]; rfl) (by rw [bneg h4]; decide)
  · refine go_aload0 C (pc := 7) dX4_add_7 ?_
    refine go_get C (pc := 8) 4 (by decide) rfl rfl 0 (by decide) rfl rfl hi_X4_add_RX4 lk_X4_add_14 dX4_add_8 ?_
    refine go_aload0 C (pc := 11) dX4_add_11 ?_
    refine go_get C (pc := 12) 4 (by decide) rfl rfl 1 (by decide) rfl rfl hi_X4_add_RX4 lk_X4_add_20 dX4_add_12 ?_
    refine go_top (y := nI w) hl ?_
    refine go_iload1 C (pc := 15) dX4_add_15 ?_
    refine go_cvV2 C (pc := 16) obj_5 (c_X3_putN C.fl C.ok _ 5 60 row_5 _ _  hw) gX4_add_X3_put rfl rfl yok_X3_put ⟨rfl, rfl⟩ ⟨Nat.le_of_ble_eq_true rfl, Nat.le_of_ble_eq_true rfl⟩ (Nat.le_of_ble_eq_true rfl) ⟨Nat.zero_le _, Nat.zero_le _⟩ dX4_add_16 (fun μ3 hc3 => ?_)
    replace hc3 := hc3.symm
    subst hc3
    skip
    refine go_aload0 C (pc := 19) dX4_add_19 ?_
    refine go_dup C (pc := 20) rfl dX4_add_20 ?_
    refine go_get C (pc := 21) 4 (by decide) rfl rfl 1 (by decide) rfl rfl hi_X4_add_RX4 lk_X4_add_20 dX4_add_21 ?_
    refine go_iconst C (pc := 24) (v := 1) (by decide) dX4_add_24 ?_
    refine go_iadd C (pc := 25) dX4_add_25 ?_
    refine go_top (y := nI (w + 1)) (by show μ 4 1 + 1 = _; rw [hl, nI_1]) ?_
    refine go_put C (pc := 26) 4 (by decide) rfl rfl 1 (by decide) rfl hi_X4_add_RX4 lk_X4_add_20 tyX4_ok nmX4 rfl rfl rfl (Nat.le_of_ble_eq_true rfl) rfl dX4_add_26 ?_
    exact go_vret C hr dX4_add_29 (rfl)

theorem yok_X4_awaitedAfterFirst : yOK yX4_awaitedAfterFirst 1 := by unfold yOK; decide +kernel
set_option maxRecDepth 20000 in
set_option maxHeartbeats 4000000 in
theorem c_X4_awaitedAfterFirst {l : Launch} {D : va_G} {ad : Nat → Nat} {cI cL : ClassId} (hfl : l.flags = flags0) (hok : adOK ad) (μ : Mem) (x : Int32) : CtI l D ad cI cL yX4_awaitedAfterFirst wsX4_awaitedAfterFirst (RM 1 20) [.int x] μ (fun (r : Int32) (μ' : Mem) => r = nI (aft0 x) ∧ μ' = μ) := by
  refine ct_i (cc := cX4_awaitedAfterFirst) (maxL := 1) (own := RX4) .int hfl hok (by decide) rfl rfl rfl (Nat.le_of_ble_eq_true rfl) (fun p e s m below meth c C hr => ?_)
  refine go_lv (lv' := [some (.int x)]) rfl ?_
  refine go_iload0 C (pc := 0) dX4_awaitedAfterFirst_0 ?_
  refine go_bipush C (pc := 1) (v := 43) (by decide) dX4_awaitedAfterFirst_1 ?_
  refine go_icmp_ne C (pc := 3) (tgt := 8) dX4_awaitedAfterFirst_3 (by decide) (fun h3 => ?_) (fun h3 => ?_)
  · refine go_iload0 C (pc := 8) dX4_awaitedAfterFirst_8 ?_
    refine go_bipush C (pc := 9) (v := 33) (by decide) dX4_awaitedAfterFirst_9 ?_
    refine go_icmp_ne C (pc := 11) (tgt := 16) dX4_awaitedAfterFirst_11 (by decide) (fun h11 => ?_) (fun h11 => ?_)
    · refine go_iload0 C (pc := 16) dX4_awaitedAfterFirst_16 ?_
      refine go_ciS1 C (pc := 17) (c_X4_isName C.fl C.ok _ _ ) gX4_awaitedAfterFirst_X4_isName rfl yok_X4_isName ⟨rfl, rfl⟩ ⟨Nat.le_of_ble_eq_true rfl, Nat.le_of_ble_eq_true rfl⟩ (Nat.le_of_ble_eq_true rfl) ⟨Nat.zero_le _, Nat.zero_le _⟩ dX4_awaitedAfterFirst_17 (fun r3 μ3 hc3 => ?_)
      obtain ⟨rfl, hm3⟩ := hc3
      replace hm3 := hm3.symm
      subst hm3
      refine go_if_eq C (pc := 20) (tgt := 27) dX4_awaitedAfterFirst_20 (by decide) (fun h20 => ?_) (fun h20 => ?_)
      · refine go_iconst C (pc := 27) (v := 5) (by decide) dX4_awaitedAfterFirst_27 ?_
        exact go_iret C hr dX4_awaitedAfterFirst_28 ⟨by rw [aft0, if_neg h3, if_neg h11, if_neg (by rw [bpos h20]; decide)]; decide, rfl⟩
      · refine go_iconst C (pc := 23) (v := 1) (by decide) dX4_awaitedAfterFirst_23 ?_
        refine go_goto C (pc := 24) (tgt := 28) dX4_awaitedAfterFirst_24 (by decide) ?_
        exact go_iret C hr dX4_awaitedAfterFirst_28 ⟨by rw [aft0, if_neg h3, if_neg h11, if_pos (bneg h20)]; decide, rfl⟩
    · refine go_iconst C (pc := 14) (v := 3) (by decide) dX4_awaitedAfterFirst_14 ?_
      exact go_iret C hr dX4_awaitedAfterFirst_15 ⟨by rw [aft0, if_neg h3, if_pos h11]; decide, rfl⟩
  · refine go_iconst C (pc := 6) (v := 4) (by decide) dX4_awaitedAfterFirst_6 ?_
    exact go_iret C hr dX4_awaitedAfterFirst_7 ⟨by rw [aft0, if_pos h3]; decide, rfl⟩

theorem yok_X4_awaitedAfter : yOK yX4_awaitedAfter 2 := by unfold yOK; decide +kernel
theorem hi_X4_awaitedAfter_RX4 : ∀ w ∈ wsX40, w ∈ wsX4_awaitedAfter := by decide +kernel
theorem lk_X4_awaitedAfter_14 : Cond.fieldLink RX4 14 "ThornCores$Text" "characters" "LThornCores$Row;" ∈ wsX4_awaitedAfter := by decide +kernel
set_option maxRecDepth 20000 in
set_option maxHeartbeats 4000000 in
theorem c_X4_awaitedAfter {l : Launch} {D : va_G} {ad : Nat → Nat} {cI cL : ClassId} (hfl : l.flags = flags0) (hok : adOK ad) (μ : Mem) (z i : Nat) (hi : i < 60) (hz : z ≤ 5) (h2 : z = 2 → 2 ≤ i) : CtI l D ad cI cL yX4_awaitedAfter wsX4_awaitedAfter (RM 2 40) [.ref (ad 4), .int (nI z), .int (nI i)] μ (fun (r : Int32) (μ' : Mem) => r = nI (aftN (μ 6) z i) ∧ μ' = μ) := by
  refine ct_i (cc := cX4_awaitedAfter) (maxL := 4) (own := RX4) .int hfl hok (by decide) rfl rfl rfl (Nat.le_of_ble_eq_true rfl) (fun p e s m below meth c C hr => ?_)
  refine go_lv (lv' := [some (.ref (ad 4)), some (.int (nI z)), some (.int (nI i)), none]) rfl ?_
  refine go_aload0 C (pc := 0) dX4_awaitedAfter_0 ?_
  refine go_get C (pc := 1) 4 (by decide) rfl rfl 0 (by decide) rfl rfl hi_X4_awaitedAfter_RX4 lk_X4_awaitedAfter_14 dX4_awaitedAfter_1 ?_
  refine go_iload2 C (pc := 4) dX4_awaitedAfter_4 ?_
  refine go_ciV1 C (pc := 5) obj_5 (c_X3_atN C.fl C.ok _ 5 60 row_5 _  (by omega)) gX4_awaitedAfter_X3_at rfl rfl yok_X3_at ⟨rfl, rfl⟩ ⟨Nat.le_of_ble_eq_true rfl, Nat.le_of_ble_eq_true rfl⟩ (Nat.le_of_ble_eq_true rfl) ⟨Nat.zero_le _, Nat.zero_le _⟩ dX4_awaitedAfter_5 (fun r1 μ1 hc1 => ?_)
  obtain ⟨rfl, hm1⟩ := hc1
  replace hm1 := hm1.symm
  subst hm1
  refine go_top (y := μ 6 i) rfl ?_
  refine go_istore3 C (pc := 8) dX4_awaitedAfter_8 ?_
  refine go_iload1 C (pc := 9) dX4_awaitedAfter_9 ?_
  rcases (show z = 0 ∨ z = 1 ∨ z = 2 ∨ z = 3 ∨ z = 4 ∨ z = 5 by omega) with rfl | rfl | rfl | rfl | rfl | rfl
  · refine go_tabIn C (pc := 10) (off := 34) (tgt := 44) dX4_awaitedAfter_10 (by decide) (by decide) (by decide) (by decide) ?_
    refine go_iload3 C (pc := 44) dX4_awaitedAfter_44 ?_
    refine go_ciS1 C (pc := 45) (c_X4_awaitedAfterFirst C.fl C.ok _ _ ) gX4_awaitedAfter_X4_awaitedAfterFirst rfl yok_X4_awaitedAfterFirst ⟨rfl, rfl⟩ ⟨Nat.le_of_ble_eq_true rfl, Nat.le_of_ble_eq_true rfl⟩ (Nat.le_of_ble_eq_true rfl) ⟨Nat.zero_le _, Nat.zero_le _⟩ dX4_awaitedAfter_45 (fun r2 μ2 hc2 => ?_)
    obtain ⟨rfl, hm2⟩ := hc2
    replace hm2 := hm2.symm
    subst hm2
    exact go_iret C hr dX4_awaitedAfter_48 ⟨by rw [aftN, if_pos rfl], rfl⟩
  · refine go_tabIn C (pc := 10) (off := 39) (tgt := 49) dX4_awaitedAfter_10 (by decide) (by decide) (by decide) (by decide) ?_
    refine go_iload3 C (pc := 49) dX4_awaitedAfter_49 ?_
    refine go_bipush C (pc := 50) (v := 45) (by decide) dX4_awaitedAfter_50 ?_
    refine go_icmp_eq C (pc := 52) (tgt := 61) dX4_awaitedAfter_52 (by decide) (fun h52 => ?_) (fun h52 => ?_)
    · refine go_iconst C (pc := 61) (v := 2) (by decide) dX4_awaitedAfter_61 ?_
      refine go_goto C (pc := 62) (tgt := 66) dX4_awaitedAfter_62 (by decide) ?_
      exact go_iret C hr dX4_awaitedAfter_66 ⟨by rw [aftN, if_neg (by decide), if_pos rfl, if_pos (Or.inl h52)]; decide, rfl⟩
    · refine go_iload3 C (pc := 55) dX4_awaitedAfter_55 ?_
      refine go_bipush C (pc := 56) (v := 47) (by decide) dX4_awaitedAfter_56 ?_
      refine go_icmp_ne C (pc := 58) (tgt := 65) dX4_awaitedAfter_58 (by decide) (fun h58 => ?_) (fun h58 => ?_)
      · refine go_iconst C (pc := 65) (v := 5) (by decide) dX4_awaitedAfter_65 ?_
        exact go_iret C hr dX4_awaitedAfter_66 ⟨by rw [aftN, if_neg (by decide), if_pos rfl, if_neg (fun q => q.elim h52 h58)]; decide, rfl⟩
      · refine go_iconst C (pc := 61) (v := 2) (by decide) dX4_awaitedAfter_61 ?_
        refine go_goto C (pc := 62) (tgt := 66) dX4_awaitedAfter_62 (by decide) ?_
        exact go_iret C hr dX4_awaitedAfter_66 ⟨by rw [aftN, if_neg (by decide), if_pos rfl, if_pos (Or.inr h58)]; decide, rfl⟩
  · refine go_tabIn C (pc := 10) (off := 57) (tgt := 67) dX4_awaitedAfter_10 (by decide) (by decide) (by decide) (by decide) ?_
    refine go_iload3 C (pc := 67) dX4_awaitedAfter_67 ?_
    refine go_ciS1 C (pc := 68) (c_X4_isName C.fl C.ok _ _ ) gX4_awaitedAfter_X4_isName rfl yok_X4_isName ⟨rfl, rfl⟩ ⟨Nat.le_of_ble_eq_true rfl, Nat.le_of_ble_eq_true rfl⟩ (Nat.le_of_ble_eq_true rfl) ⟨Nat.zero_le _, Nat.zero_le _⟩ dX4_awaitedAfter_68 (fun r5 μ5 hc5 => ?_)
    obtain ⟨rfl, hm5⟩ := hc5
    replace hm5 := hm5.symm
    subst hm5
    refine go_if_eq C (pc := 71) (tgt := 92) dX4_awaitedAfter_71 (by decide) (fun h71 => ?_) (fun h71 => ?_)
    · refine go_iconst C (pc := 92) (v := 5) (by decide) dX4_awaitedAfter_92 ?_
      exact go_iret C hr dX4_awaitedAfter_93 ⟨by rw [aftN, if_neg (by decide), if_neg (by decide), if_pos rfl, if_neg (fun q => by rw [bpos h71] at q; exact absurd q.1 (by decide))]; decide, rfl⟩
    · refine go_iload3 C (pc := 74) dX4_awaitedAfter_74 ?_
      refine go_aload0 C (pc := 75) dX4_awaitedAfter_75 ?_
      refine go_get C (pc := 76) 4 (by decide) rfl rfl 0 (by decide) rfl rfl hi_X4_awaitedAfter_RX4 lk_X4_awaitedAfter_14 dX4_awaitedAfter_76 ?_
      refine go_iload2 C (pc := 79) dX4_awaitedAfter_79 ?_
      refine go_iconst C (pc := 80) (v := 2) (by decide) dX4_awaitedAfter_80 ?_
      refine go_isub C (pc := 81) dX4_awaitedAfter_81 ?_
      refine go_top (y := nI (i - 2)) (by rw [show (2 : Int32) = nI 2 from rfl, pk_sub (h2 rfl)]) ?_
      refine go_ciV1 C (pc := 82) obj_5 (c_X3_atN C.fl C.ok _ 5 60 row_5 _  (by omega)) gX4_awaitedAfter_X3_at rfl rfl yok_X3_at ⟨rfl, rfl⟩ ⟨Nat.le_of_ble_eq_true rfl, Nat.le_of_ble_eq_true rfl⟩ (Nat.le_of_ble_eq_true rfl) ⟨Nat.zero_le _, Nat.zero_le _⟩ dX4_awaitedAfter_82 (fun r7 μ7 hc7 => ?_)
      obtain ⟨rfl, hm7⟩ := hc7
      replace hm7 := hm7.symm
      subst hm7
      refine go_top (y := μ 6 (i - 2)) rfl ?_
      refine go_icmp_eq C (pc := 85) (tgt := 92) dX4_awaitedAfter_85 (by decide) (fun h85 => ?_) (fun h85 => ?_)
      · refine go_iconst C (pc := 92) (v := 5) (by decide) dX4_awaitedAfter_92 ?_
        exact go_iret C hr dX4_awaitedAfter_93 ⟨by rw [aftN, if_neg (by decide), if_neg (by decide), if_pos rfl, if_neg (fun q => q.2 h85)]; decide, rfl⟩
      · refine go_iconst C (pc := 88) (v := 4) (by decide) dX4_awaitedAfter_88 ?_
        refine go_goto C (pc := 89) (tgt := 93) dX4_awaitedAfter_89 (by decide) ?_
        exact go_iret C hr dX4_awaitedAfter_93 ⟨by rw [aftN, if_neg (by decide), if_neg (by decide), if_pos rfl, if_pos ⟨bneg h71, h85⟩]; decide, rfl⟩
  · refine go_tabIn C (pc := 10) (off := 84) (tgt := 94) dX4_awaitedAfter_10 (by decide) (by decide) (by decide) (by decide) ?_
    refine go_iload3 C (pc := 94) dX4_awaitedAfter_94 ?_
    refine go_ciS1 C (pc := 95) (c_X4_isName C.fl C.ok _ _ ) gX4_awaitedAfter_X4_isName rfl yok_X4_isName ⟨rfl, rfl⟩ ⟨Nat.le_of_ble_eq_true rfl, Nat.le_of_ble_eq_true rfl⟩ (Nat.le_of_ble_eq_true rfl) ⟨Nat.zero_le _, Nat.zero_le _⟩ dX4_awaitedAfter_95 (fun r9 μ9 hc9 => ?_)
    obtain ⟨rfl, hm9⟩ := hc9
    replace hm9 := hm9.symm
    subst hm9
    refine go_if_eq C (pc := 98) (tgt := 105) dX4_awaitedAfter_98 (by decide) (fun h98 => ?_) (fun h98 => ?_)
    · refine go_iconst C (pc := 105) (v := 5) (by decide) dX4_awaitedAfter_105 ?_
      exact go_iret C hr dX4_awaitedAfter_106 ⟨by rw [aftN, if_neg (by decide), if_neg (by decide), if_neg (by decide), if_pos rfl, if_neg (by rw [bpos h98]; decide)]; decide, rfl⟩
    · refine go_iconst C (pc := 101) (v := 4) (by decide) dX4_awaitedAfter_101 ?_
      refine go_goto C (pc := 102) (tgt := 106) dX4_awaitedAfter_102 (by decide) ?_
      exact go_iret C hr dX4_awaitedAfter_106 ⟨by rw [aftN, if_neg (by decide), if_neg (by decide), if_neg (by decide), if_pos rfl, if_pos (bneg h98)]; decide, rfl⟩
  · refine go_tabIn C (pc := 10) (off := 97) (tgt := 107) dX4_awaitedAfter_10 (by decide) (by decide) (by decide) (by decide) ?_
    refine go_iload3 C (pc := 107) dX4_awaitedAfter_107 ?_
    refine go_bipush C (pc := 108) (v := 44) (by decide) dX4_awaitedAfter_108 ?_
    refine go_icmp_ne C (pc := 110) (tgt := 117) dX4_awaitedAfter_110 (by decide) (fun h110 => ?_) (fun h110 => ?_)
    · refine go_iconst C (pc := 117) (v := 5) (by decide) dX4_awaitedAfter_117 ?_
      exact go_iret C hr dX4_awaitedAfter_118 ⟨by rw [aftN, if_neg (by decide), if_neg (by decide), if_neg (by decide), if_neg (by decide), if_pos rfl, if_neg h110]; decide, rfl⟩
    · refine go_iconst C (pc := 113) (v := 0) (by decide) dX4_awaitedAfter_113 ?_
      refine go_goto C (pc := 114) (tgt := 118) dX4_awaitedAfter_114 (by decide) ?_
      exact go_iret C hr dX4_awaitedAfter_118 ⟨by rw [aftN, if_neg (by decide), if_neg (by decide), if_neg (by decide), if_neg (by decide), if_pos rfl, if_pos h110]; decide, rfl⟩
  · refine go_tabOut C (pc := 10) (tgt := 119) dX4_awaitedAfter_10 (by decide) (by decide) ?_
    refine go_iconst C (pc := 119) (v := 5) (by decide) dX4_awaitedAfter_119 ?_
    exact go_iret C hr dX4_awaitedAfter_120 ⟨by rw [aftN, if_neg (by decide), if_neg (by decide), if_neg (by decide), if_neg (by decide), if_neg (by decide)]; decide, rfl⟩

theorem yok_X4_isList : yOK yX4_isList 0 := by unfold yOK; decide +kernel
theorem hi_X4_isList_RX4 : ∀ w ∈ wsX40, w ∈ wsX4_isList := by decide +kernel
theorem lk_X4_isList_20 : Cond.fieldLink RX4 20 "ThornCores$Text" "length" "I" ∈ wsX4_isList := by decide +kernel
set_option maxRecDepth 20000 in
set_option maxHeartbeats 4000000 in
theorem c_X4_isList {l : Launch} {D : va_G} {ad : Nat → Nat} {cI cL : ClassId} (hfl : l.flags = flags0) (hok : adOK ad) (μ : Mem) (w : Nat) (hl : μ 4 1 = nI w) (hw : w ≤ 60) : CtI l D ad cI cL yX4_isList wsX4_isList (RM 3 63) [.ref (ad 4)] μ (fun (r : Int32) (μ' : Mem) => r = b2i (decide (dfa (μ 6) w = 4)) ∧ μ' = μ) := by
  refine ct_i (cc := cX4_isList) (maxL := 3) (own := RX4) .boolean hfl hok (by decide) rfl rfl rfl (Nat.le_of_ble_eq_true rfl) (fun p e s m below meth c C hr => ?_)
  refine go_lv (lv' := [some (.ref (ad 4)), none, none]) rfl ?_
  have key : ∀ i, i ≤ w → Go p l e (headSpec wsX4_isList (RM 3 63)).room s m ([.ref (ad 4)] : List Value).toArray below meth c 0 0 (MQ below (va_Qi (fun (r : Int32) (μ' : Mem) => r = b2i (decide (dfa (μ 6) w = 4)) ∧ μ' = μ) (fun μ' t => PreW D ad cI cL μ' t) (AW ad)) ([.ref (ad 4)] : List Value).toArray s 0 0 (AW ad)) (AW ad) D ad cI cL 3 4 [some (.ref (ad 4)), some (.int (nI (dfa (μ 6) i))), some (.int (nI i))] [] (μ) := by
    refine dn_ind ?_ ?_
    · have h5 := dfa_le (μ 6) w
      refine go_iload2 C (pc := 4) dX4_isList_4 ?_
      refine go_aload0 C (pc := 5) dX4_isList_5 ?_
      refine go_get C (pc := 6) 4 (by decide) rfl rfl 1 (by decide) rfl rfl hi_X4_isList_RX4 lk_X4_isList_20 dX4_isList_6 ?_
      refine go_icmp_ge C (pc := 9) (tgt := 25) dX4_isList_9 (by decide) (fun h9 => ?_) (fun h9 => ?_)
      · refine go_iload1 C (pc := 25) dX4_isList_25 ?_
        refine go_iconst C (pc := 26) (v := 4) (by decide) dX4_isList_26 ?_
        refine go_icmp_ne C (pc := 27) (tgt := 34) dX4_isList_27 (by decide) (fun h27 => ?_) (fun h27 => ?_)
        · refine go_iconst C (pc := 34) (v := 0) (by decide) dX4_isList_34 ?_
          exact go_zret C hr dX4_isList_35 (by decide) ⟨by rw [decide_eq_false (fun q => h27 (by rw [q]; decide))]; rfl, rfl⟩
        · refine go_iconst C (pc := 30) (v := 1) (by decide) dX4_isList_30 ?_
          refine go_goto C (pc := 31) (tgt := 35) dX4_isList_31 (by decide) ?_
          exact go_zret C hr dX4_isList_35 (by decide) ⟨by rw [decide_eq_true (nI_inj3 (by omega) (by decide) h27)]; rfl, rfl⟩
      · exact absurd (cnt_le hl (Nat.le_refl _) (by omega)) h9
    · intro i hi ih
      refine go_iload2 C (pc := 4) dX4_isList_4 ?_
      refine go_aload0 C (pc := 5) dX4_isList_5 ?_
      refine go_get C (pc := 6) 4 (by decide) rfl rfl 1 (by decide) rfl rfl hi_X4_isList_RX4 lk_X4_isList_20 dX4_isList_6 ?_
      refine go_icmp_ge C (pc := 9) (tgt := 25) dX4_isList_9 (by decide) (fun h9 => ?_) (fun h9 => ?_)
      · exact absurd h9 (cnt_nle hl hi (by omega))
      · refine go_aload0 C (pc := 12) dX4_isList_12 ?_
        refine go_iload1 C (pc := 13) dX4_isList_13 ?_
        refine go_iload2 C (pc := 14) dX4_isList_14 ?_
        refine go_ciV2 C (pc := 15) obj_4 (c_X4_awaitedAfter C.fl C.ok _ _ _ (by omega) (dfa_le _ _) (dfa_2 _ _)) gX4_isList_X4_awaitedAfter rfl rfl yok_X4_awaitedAfter ⟨rfl, rfl⟩ ⟨Nat.le_of_ble_eq_true rfl, Nat.le_of_ble_eq_true rfl⟩ (Nat.le_of_ble_eq_true rfl) ⟨Nat.zero_le _, Nat.zero_le _⟩ dX4_isList_15 (fun r4 μ4 hc4 => ?_)
        obtain ⟨rfl, hm4⟩ := hc4
        replace hm4 := hm4.symm
        subst hm4
        refine go_istore1 C (pc := 18) dX4_isList_18 ?_
        refine go_iinc2 C (pc := 19) (v := 1) dX4_isList_19 (by decide) ?_
        refine go_goto C (pc := 22) (tgt := 4) dX4_isList_22 (by decide) ?_
        exact go_lv (by rw [nI_1]; rfl) ih
  refine go_iconst C (pc := 0) (v := 0) (by decide) dX4_isList_0 ?_
  refine go_istore1 C (pc := 1) dX4_isList_1 ?_
  refine go_iconst C (pc := 2) (v := 0) (by decide) dX4_isList_2 ?_
  refine go_istore2 C (pc := 3) dX4_isList_3 ?_
  exact go_lv (by rw [nI_0]; rfl) (key 0 (Nat.zero_le _))

theorem yok_X4_errorPlace : yOK yX4_errorPlace 0 := by unfold yOK; decide +kernel
theorem hi_X4_errorPlace_RX4 : ∀ w ∈ wsX40, w ∈ wsX4_errorPlace := by decide +kernel
theorem lk_X4_errorPlace_20 : Cond.fieldLink RX4 20 "ThornCores$Text" "length" "I" ∈ wsX4_errorPlace := by decide +kernel
set_option maxRecDepth 20000 in
set_option maxHeartbeats 4000000 in
theorem c_X4_errorPlace {l : Launch} {D : va_G} {ad : Nat → Nat} {cI cL : ClassId} (hfl : l.flags = flags0) (hok : adOK ad) (μ : Mem) (w : Nat) (hl : μ 4 1 = nI w) (hw : w ≤ 60) : CtI l D ad cI cL yX4_errorPlace wsX4_errorPlace (RM 3 63) [.ref (ad 4)] μ (fun (r : Int32) (μ' : Mem) => ((∃ i, i < w ∧ r = nI i ∧ dfa (μ 6) (i + 1) = 5 ∧ ∀ x, x ≤ i → dfa (μ 6) x ≠ 5) ∨ (r = nI w ∧ ∀ x, x ≤ w → dfa (μ 6) x ≠ 5)) ∧ μ' = μ) := by
  refine ct_i (cc := cX4_errorPlace) (maxL := 3) (own := RX4) .int hfl hok (by decide) rfl rfl rfl (Nat.le_of_ble_eq_true rfl) (fun p e s m below meth c C hr => ?_)
  refine go_lv (lv' := [some (.ref (ad 4)), none, none]) rfl ?_
  have key : ∀ i, i ≤ w → (∀ x, x ≤ i → dfa (μ 6) x ≠ 5) → Go p l e (headSpec wsX4_errorPlace (RM 3 63)).room s m ([.ref (ad 4)] : List Value).toArray below meth c 0 0 (MQ below (va_Qi (fun (r : Int32) (μ' : Mem) => ((∃ i, i < w ∧ r = nI i ∧ dfa (μ 6) (i + 1) = 5 ∧ ∀ x, x ≤ i → dfa (μ 6) x ≠ 5) ∨ (r = nI w ∧ ∀ x, x ≤ w → dfa (μ 6) x ≠ 5)) ∧ μ' = μ) (fun μ' t => PreW D ad cI cL μ' t) (AW ad)) ([.ref (ad 4)] : List Value).toArray s 0 0 (AW ad)) (AW ad) D ad cI cL 3 4 [some (.ref (ad 4)), some (.int (nI (dfa (μ 6) i))), some (.int (nI i))] [] (μ) := by
    refine dn_ind ?_ ?_
    · intro hno
      refine go_iload2 C (pc := 4) dX4_errorPlace_4 ?_
      refine go_aload0 C (pc := 5) dX4_errorPlace_5 ?_
      refine go_get C (pc := 6) 4 (by decide) rfl rfl 1 (by decide) rfl rfl hi_X4_errorPlace_RX4 lk_X4_errorPlace_20 dX4_errorPlace_6 ?_
      refine go_icmp_ge C (pc := 9) (tgt := 32) dX4_errorPlace_9 (by decide) (fun h9 => ?_) (fun h9 => ?_)
      · refine go_aload0 C (pc := 32) dX4_errorPlace_32 ?_
        refine go_get C (pc := 33) 4 (by decide) rfl rfl 1 (by decide) rfl rfl hi_X4_errorPlace_RX4 lk_X4_errorPlace_20 dX4_errorPlace_33 ?_
        exact go_iret C hr dX4_errorPlace_36 (⟨Or.inr ⟨hl, hno⟩, rfl⟩)
      · exact absurd (cnt_le hl (Nat.le_refl _) (by omega)) h9
    · intro i hi ih hno
      have h5 := dfa_le (μ 6) (i + 1)
      refine go_iload2 C (pc := 4) dX4_errorPlace_4 ?_
      refine go_aload0 C (pc := 5) dX4_errorPlace_5 ?_
      refine go_get C (pc := 6) 4 (by decide) rfl rfl 1 (by decide) rfl rfl hi_X4_errorPlace_RX4 lk_X4_errorPlace_20 dX4_errorPlace_6 ?_
      refine go_icmp_ge C (pc := 9) (tgt := 32) dX4_errorPlace_9 (by decide) (fun h9 => ?_) (fun h9 => ?_)
      · exact absurd h9 (cnt_nle hl hi (by omega))
      · refine go_aload0 C (pc := 12) dX4_errorPlace_12 ?_
        refine go_iload1 C (pc := 13) dX4_errorPlace_13 ?_
        refine go_iload2 C (pc := 14) dX4_errorPlace_14 ?_
        refine go_ciV2 C (pc := 15) obj_4 (c_X4_awaitedAfter C.fl C.ok _ _ _ (by omega) (dfa_le _ _) (dfa_2 _ _)) gX4_errorPlace_X4_awaitedAfter rfl rfl yok_X4_awaitedAfter ⟨rfl, rfl⟩ ⟨Nat.le_of_ble_eq_true rfl, Nat.le_of_ble_eq_true rfl⟩ (Nat.le_of_ble_eq_true rfl) ⟨Nat.zero_le _, Nat.zero_le _⟩ dX4_errorPlace_15 (fun r3 μ3 hc3 => ?_)
        obtain ⟨rfl, hm3⟩ := hc3
        replace hm3 := hm3.symm
        subst hm3
        refine go_istore1 C (pc := 18) dX4_errorPlace_18 ?_
        refine go_iload1 C (pc := 19) dX4_errorPlace_19 ?_
        refine go_iconst C (pc := 20) (v := 5) (by decide) dX4_errorPlace_20 ?_
        refine go_icmp_ne C (pc := 21) (tgt := 26) dX4_errorPlace_21 (by decide) (fun h21 => ?_) (fun h21 => ?_)
        · refine go_iinc2 C (pc := 26) (v := 1) dX4_errorPlace_26 (by decide) ?_
          refine go_goto C (pc := 29) (tgt := 4) dX4_errorPlace_29 (by decide) ?_
          exact go_lv (by rw [nI_1]; rfl) (ih (up_next hno (fun q => h21 (by show nI (dfa (μ 6) (i + 1)) = 5; rw [q]; decide))))
        · refine go_iload2 C (pc := 24) dX4_errorPlace_24 ?_
          exact go_iret C hr dX4_errorPlace_25 (⟨Or.inl ⟨i, hi, rfl, nI_inj3 (by omega) (by decide) h21, hno⟩, rfl⟩)
  refine go_iconst C (pc := 0) (v := 0) (by decide) dX4_errorPlace_0 ?_
  refine go_istore1 C (pc := 1) dX4_errorPlace_1 ?_
  refine go_iconst C (pc := 2) (v := 0) (by decide) dX4_errorPlace_2 ?_
  refine go_istore2 C (pc := 3) dX4_errorPlace_3 ?_
  exact go_lv (by rw [nI_0]; rfl) (key 0 (Nat.zero_le _) (fun x hx => by rw [show x = 0 by omega]; exact (by decide : (0 : Nat) ≠ 5)))

