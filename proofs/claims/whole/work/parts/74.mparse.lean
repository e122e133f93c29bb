/-! ===== ThornCoresModel: reading the text, sign by sign ===== -/
/-- where the model reads: at i of w signs, and whether something was wrong -/
def Pa (μ : Mem) (w i : Nat) (wr : Bool) : Prop := μ 25 11 = nI i ∧ μ 25 6 = nI w ∧ μ 25 12 = b2i wr ∧ i ≤ w ∧ w ≤ 60
def nxB (c : Nat → Int32) (w i : Nat) (wr : Bool) (x : Int32) : Bool := !wr && (decide (i < w) && decide (c i = x))
def nxI (c : Nat → Int32) (w i : Nat) (wr : Bool) (x : Int32) : Nat := if nxB c w i wr x = true then i + 1 else i
def nmC (c : Nat → Int32) (w i : Nat) (wr : Bool) : Int32 := if i < w ∧ wr = false then c i else 0
def nmB (c : Nat → Int32) (w i : Nat) (wr : Bool) (x : Int32) : Bool := wr || (!nameB (nmC c w i wr) || decide (nmC c w i wr = x))
def nmI (c : Nat → Int32) (w i : Nat) (wr : Bool) (x : Int32) : Nat := if nmB c w i wr x = true then i else i + 1
theorem name_0 : nameB 0 = false := by decide
theorem nx_lt {c : Nat → Int32} {w i : Nat} {wr : Bool} {x : Int32} (h : nxB c w i wr x = true) : i < w ∧ c i = x ∧ wr = false := by
  simp only [nxB, Bool.and_eq_true, Bool.not_eq_true', decide_eq_true_eq] at h
  exact ⟨h.2.1, h.2.2, h.1⟩
theorem nxI_le {c : Nat → Int32} {w i : Nat} {wr : Bool} {x : Int32} (h : i ≤ w) : nxI c w i wr x ≤ w := by
  unfold nxI
  by_cases q : nxB c w i wr x = true
  · rw [if_pos q]; exact (nx_lt q).1
  · rw [if_neg q]; exact h
theorem nmI_le {c : Nat → Int32} {w i : Nat} {wr : Bool} {x : Int32} (h : i ≤ w) : nmI c w i wr x ≤ w := by
  unfold nmI
  by_cases q : nmB c w i wr x = true
  · rw [if_pos q]; exact h
  · rw [if_neg q]
    rcases Nat.lt_or_ge i w with z | z
    · exact z
    · exfalso
      apply q
      have e : nmC c w i wr = 0 := if_neg (fun u => by omega)
      unfold nmB
      rw [e, name_0, Bool.not_false, Bool.true_or, Bool.or_true]
theorem Pa.nx {μ : Mem} {c : Nat → Int32} {w i : Nat} {wr : Bool} {x : Int32} (h : Pa μ w i wr) {u : Nat → Int32} (e1 : u 11 = nI (nxI c w i wr x)) (e2 : ∀ f, f ≠ 11 → u f = μ 25 f) : Pa (mset μ 25 u) w (nxI c w i wr x) wr :=
  ⟨e1, (e2 6 (by decide)).trans h.2.1, (e2 12 (by decide)).trans h.2.2.1, nxI_le h.2.2.2.1, h.2.2.2.2⟩
theorem Pa.nm {μ : Mem} {c : Nat → Int32} {w i : Nat} {wr : Bool} {x : Int32} (h : Pa μ w i wr) {u : Nat → Int32} (e1 : u 11 = nI (nmI c w i wr x)) (e3 : u 12 = b2i (nmB c w i wr x)) (e2 : ∀ f, f ≠ 11 → f ≠ 12 → u f = μ 25 f) : Pa (mset μ 25 u) w (nmI c w i wr x) (nmB c w i wr x) :=
  ⟨e1, (e2 6 (by decide) (by decide)).trans h.2.1, e3, nmI_le h.2.2.2.1, h.2.2.2.2⟩
theorem yok_X8_isNext : yOK yX8_isNext 1 := by unfold yOK; decide +kernel
theorem hi_X8_isNext_RX8 : ∀ w ∈ wsX80, w ∈ wsX8_isNext := by decide +kernel
theorem lk_X8_isNext_106 : Cond.fieldLink RX8 106 "ThornCoresModel" "isWrong" "Z" ∈ wsX8_isNext := by decide +kernel
theorem lk_X8_isNext_103 : Cond.fieldLink RX8 103 "ThornCoresModel" "at" "I" ∈ wsX8_isNext := by decide +kernel
theorem lk_X8_isNext_100 : Cond.fieldLink RX8 100 "ThornCoresModel" "length" "I" ∈ wsX8_isNext := by decide +kernel
theorem lk_X8_isNext_19 : Cond.fieldLink RX8 19 "ThornCoresModel" "text" "[I" ∈ wsX8_isNext := by decide +kernel
set_option maxRecDepth 20000 in
set_option maxHeartbeats 4000000 in
theorem c_X8_isNext {l : Launch} {D : va_G} {ad : Nat → Nat} {cI cL : ClassId} (hfl : l.flags = flags0) (hok : adOK ad) (μ : Mem) (x : Int32) (w i : Nat) (wr : Bool) (hP : Pa μ w i wr) : CtI l D ad cI cL yX8_isNext wsX8_isNext (RM 0 0) [.ref (ad 25), .int x] μ (fun (r : Int32) (μ' : Mem) => r = b2i (nxB (μ 29) w i wr x) ∧ ∃ u, μ' = mset μ 25 u ∧ u 11 = nI (nxI (μ 29) w i wr x) ∧ ∀ f, f ≠ 11 → u f = μ 25 f) := by
  refine ct_i (cc := cX8_isNext) (maxL := 3) (own := RX8) .boolean hfl hok (by decide) rfl rfl rfl (Nat.le_of_ble_eq_true rfl) (fun p e s m below meth c C hr => ?_)
  refine go_lv (lv' := [some (.ref (ad 25)), some (.int x), none]) rfl ?_
  obtain ⟨e11, e6, e12, hiw, hw⟩ := id hP
  refine go_aload0 C (pc := 0) dX8_isNext_0 ?_
  refine go_get C (pc := 1) 25 (by decide) rfl rfl 12 (by decide) rfl rfl hi_X8_isNext_RX8 lk_X8_isNext_106 dX8_isNext_1 ?_
  refine go_top (y := b2i wr) e12 ?_
  refine go_if_ne C (pc := 4) (tgt := 35) dX8_isNext_4 (by decide) (fun h4 => ?_) (fun h4 => ?_)
  · refine go_iconst C (pc := 35) (v := 0) (by decide) dX8_isNext_35 ?_
    refine go_istore2 C (pc := 36) dX8_isNext_36 ?_
    refine go_aload0 C (pc := 37) dX8_isNext_37 ?_
    refine go_dup C (pc := 38) rfl dX8_isNext_38 ?_
    refine go_get C (pc := 39) 25 (by decide) rfl rfl 11 (by decide) rfl rfl hi_X8_isNext_RX8 lk_X8_isNext_103 dX8_isNext_39 ?_
    refine go_iload2 C (pc := 42) dX8_isNext_42 ?_
    refine go_if_eq C (pc := 43) (tgt := 50) dX8_isNext_43 (by decide) (fun h43 => ?_) (fun h43 => ?_)
    · refine go_iconst C (pc := 50) (v := 0) (by decide) dX8_isNext_50 ?_
      refine go_iadd C (pc := 51) dX8_isNext_51 ?_
      refine go_put C (pc := 52) 25 (by decide) rfl rfl 11 (by decide) rfl hi_X8_isNext_RX8 lk_X8_isNext_103 tyX8_ok nmX8 rfl rfl rfl (Nat.le_of_ble_eq_true rfl) rfl dX8_isNext_52 ?_
      refine go_iload2 C (pc := 55) dX8_isNext_55 ?_
      have hb : nxB (μ 29) w i wr x = false := by rw [nxB, bneg h4]; rfl
      exact go_zret C hr dX8_isNext_56 (by decide) ⟨by rw [hb]; rfl, _, rfl, by rw [nxI, if_neg (by rw [hb]; decide)]; exact (Int32.add_zero _).trans e11, fun f hf => pk_un hf⟩
    · refine go_iconst C (pc := 46) (v := 1) (by decide) dX8_isNext_46 ?_
      refine go_goto C (pc := 47) (tgt := 51) dX8_isNext_47 (by decide) ?_
      refine go_iadd C (pc := 51) dX8_isNext_51 ?_
      refine go_put C (pc := 52) 25 (by decide) rfl rfl 11 (by decide) rfl hi_X8_isNext_RX8 lk_X8_isNext_103 tyX8_ok nmX8 rfl rfl rfl (Nat.le_of_ble_eq_true rfl) rfl dX8_isNext_52 ?_
      refine go_iload2 C (pc := 55) dX8_isNext_55 ?_
      exact absurd rfl (show ¬ (0 : Int32) = 0 from h43)
  · refine go_aload0 C (pc := 7) dX8_isNext_7 ?_
    refine go_get C (pc := 8) 25 (by decide) rfl rfl 11 (by decide) rfl rfl hi_X8_isNext_RX8 lk_X8_isNext_103 dX8_isNext_8 ?_
    refine go_top (y := nI (i)) (e11) ?_
    refine go_aload0 C (pc := 11) dX8_isNext_11 ?_
    refine go_get C (pc := 12) 25 (by decide) rfl rfl 6 (by decide) rfl rfl hi_X8_isNext_RX8 lk_X8_isNext_100 dX8_isNext_12 ?_
    refine go_top (y := nI (w)) (e6) ?_
    refine go_icmp_ge C (pc := 15) (tgt := 35) dX8_isNext_15 (by decide) (fun h15 => ?_) (fun h15 => ?_)
    · refine go_iconst C (pc := 35) (v := 0) (by decide) dX8_isNext_35 ?_
      refine go_istore2 C (pc := 36) dX8_isNext_36 ?_
      refine go_aload0 C (pc := 37) dX8_isNext_37 ?_
      refine go_dup C (pc := 38) rfl dX8_isNext_38 ?_
      refine go_get C (pc := 39) 25 (by decide) rfl rfl 11 (by decide) rfl rfl hi_X8_isNext_RX8 lk_X8_isNext_103 dX8_isNext_39 ?_
      refine go_iload2 C (pc := 42) dX8_isNext_42 ?_
      refine go_if_eq C (pc := 43) (tgt := 50) dX8_isNext_43 (by decide) (fun h43 => ?_) (fun h43 => ?_)
      · refine go_iconst C (pc := 50) (v := 0) (by decide) dX8_isNext_50 ?_
        refine go_iadd C (pc := 51) dX8_isNext_51 ?_
        refine go_put C (pc := 52) 25 (by decide) rfl rfl 11 (by decide) rfl hi_X8_isNext_RX8 lk_X8_isNext_103 tyX8_ok nmX8 rfl rfl rfl (Nat.le_of_ble_eq_true rfl) rfl dX8_isNext_52 ?_
        refine go_iload2 C (pc := 55) dX8_isNext_55 ?_
        have hb : nxB (μ 29) w i wr x = false := by rw [nxB, bpos h4, decide_eq_false (fun z => nI_ge z (by omega) h15)]; rfl
        exact go_zret C hr dX8_isNext_56 (by decide) ⟨by rw [hb]; rfl, _, rfl, by rw [nxI, if_neg (by rw [hb]; decide)]; exact (Int32.add_zero _).trans e11, fun f hf => pk_un hf⟩
      · refine go_iconst C (pc := 46) (v := 1) (by decide) dX8_isNext_46 ?_
        refine go_goto C (pc := 47) (tgt := 51) dX8_isNext_47 (by decide) ?_
        refine go_iadd C (pc := 51) dX8_isNext_51 ?_
        refine go_put C (pc := 52) 25 (by decide) rfl rfl 11 (by decide) rfl hi_X8_isNext_RX8 lk_X8_isNext_103 tyX8_ok nmX8 rfl rfl rfl (Nat.le_of_ble_eq_true rfl) rfl dX8_isNext_52 ?_
        refine go_iload2 C (pc := 55) dX8_isNext_55 ?_
        exact absurd rfl (show ¬ (0 : Int32) = 0 from h43)
    · have hlt : i < w := Nat.lt_of_not_le (fun z => h15 (nI_le z (by omega)))
      refine go_aload0 C (pc := 18) dX8_isNext_18 ?_
      refine go_get C (pc := 19) 25 (by decide) rfl rfl 5 (by decide) rfl rfl hi_X8_isNext_RX8 lk_X8_isNext_19 dX8_isNext_19 ?_
      refine go_aload0 C (pc := 22) dX8_isNext_22 ?_
      refine go_get C (pc := 23) 25 (by decide) rfl rfl 11 (by decide) rfl rfl hi_X8_isNext_RX8 lk_X8_isNext_103 dX8_isNext_23 ?_
      refine go_top (y := nI (i)) (e11) ?_
      refine go_ialdN C (pc := 26) arr_29 (i := i) (by omega) dX8_isNext_26 ?_
      refine go_iload1 C (pc := 27) dX8_isNext_27 ?_
      refine go_icmp_ne C (pc := 28) (tgt := 35) dX8_isNext_28 (by decide) (fun h28 => ?_) (fun h28 => ?_)
      · refine go_iconst C (pc := 35) (v := 0) (by decide) dX8_isNext_35 ?_
        refine go_istore2 C (pc := 36) dX8_isNext_36 ?_
        refine go_aload0 C (pc := 37) dX8_isNext_37 ?_
        refine go_dup C (pc := 38) rfl dX8_isNext_38 ?_
        refine go_get C (pc := 39) 25 (by decide) rfl rfl 11 (by decide) rfl rfl hi_X8_isNext_RX8 lk_X8_isNext_103 dX8_isNext_39 ?_
        refine go_iload2 C (pc := 42) dX8_isNext_42 ?_
        refine go_if_eq C (pc := 43) (tgt := 50) dX8_isNext_43 (by decide) (fun h43 => ?_) (fun h43 => ?_)
        · refine go_iconst C (pc := 50) (v := 0) (by decide) dX8_isNext_50 ?_
          refine go_iadd C (pc := 51) dX8_isNext_51 ?_
          refine go_put C (pc := 52) 25 (by decide) rfl rfl 11 (by decide) rfl hi_X8_isNext_RX8 lk_X8_isNext_103 tyX8_ok nmX8 rfl rfl rfl (Nat.le_of_ble_eq_true rfl) rfl dX8_isNext_52 ?_
          refine go_iload2 C (pc := 55) dX8_isNext_55 ?_
          have hb : nxB (μ 29) w i wr x = false := by rw [nxB, bpos h4, decide_eq_false h28, Bool.and_false, Bool.and_false]
          exact go_zret C hr dX8_isNext_56 (by decide) ⟨by rw [hb]; rfl, _, rfl, by rw [nxI, if_neg (by rw [hb]; decide)]; exact (Int32.add_zero _).trans e11, fun f hf => pk_un hf⟩
        · refine go_iconst C (pc := 46) (v := 1) (by decide) dX8_isNext_46 ?_
          refine go_goto C (pc := 47) (tgt := 51) dX8_isNext_47 (by decide) ?_
          refine go_iadd C (pc := 51) dX8_isNext_51 ?_
          refine go_put C (pc := 52) 25 (by decide) rfl rfl 11 (by decide) rfl hi_X8_isNext_RX8 lk_X8_isNext_103 tyX8_ok nmX8 rfl rfl rfl (Nat.le_of_ble_eq_true rfl) rfl dX8_isNext_52 ?_
          refine go_iload2 C (pc := 55) dX8_isNext_55 ?_
          exact absurd rfl (show ¬ (0 : Int32) = 0 from h43)
      · refine go_iconst C (pc := 31) (v := 1) (by decide) dX8_isNext_31 ?_
        refine go_goto C (pc := 32) (tgt := 36) dX8_isNext_32 (by decide) ?_
        refine go_istore2 C (pc := 36) dX8_isNext_36 ?_
        refine go_aload0 C (pc := 37) dX8_isNext_37 ?_
        refine go_dup C (pc := 38) rfl dX8_isNext_38 ?_
        refine go_get C (pc := 39) 25 (by decide) rfl rfl 11 (by decide) rfl rfl hi_X8_isNext_RX8 lk_X8_isNext_103 dX8_isNext_39 ?_
        refine go_iload2 C (pc := 42) dX8_isNext_42 ?_
        refine go_if_eq C (pc := 43) (tgt := 50) dX8_isNext_43 (by decide) (fun h43 => ?_) (fun h43 => ?_)
        · refine go_iconst C (pc := 50) (v := 0) (by decide) dX8_isNext_50 ?_
          refine go_iadd C (pc := 51) dX8_isNext_51 ?_
          refine go_put C (pc := 52) 25 (by decide) rfl rfl 11 (by decide) rfl hi_X8_isNext_RX8 lk_X8_isNext_103 tyX8_ok nmX8 rfl rfl rfl (Nat.le_of_ble_eq_true rfl) rfl dX8_isNext_52 ?_
          refine go_iload2 C (pc := 55) dX8_isNext_55 ?_
          exact absurd (show (1 : Int32) = 0 from h43) (by decide)
        · refine go_iconst C (pc := 46) (v := 1) (by decide) dX8_isNext_46 ?_
          refine go_goto C (pc := 47) (tgt := 51) dX8_isNext_47 (by decide) ?_
          refine go_iadd C (pc := 51) dX8_isNext_51 ?_
          refine go_put C (pc := 52) 25 (by decide) rfl rfl 11 (by decide) rfl hi_X8_isNext_RX8 lk_X8_isNext_103 tyX8_ok nmX8 rfl rfl rfl (Nat.le_of_ble_eq_true rfl) rfl dX8_isNext_52 ?_
          refine go_iload2 C (pc := 55) dX8_isNext_55 ?_
          have hb : nxB (μ 29) w i wr x = true := by rw [nxB, bpos h4, decide_eq_true hlt, decide_eq_true h28]; rfl
          exact go_zret C hr dX8_isNext_56 (by decide) ⟨by rw [hb]; rfl, _, rfl, by rw [nxI, if_pos hb]; exact (congrArg (· + 1) e11).trans (nI_1 i), fun f hf => pk_un hf⟩

theorem yok_X8_name : yOK yX8_name 1 := by unfold yOK; decide +kernel
theorem hi_X8_name_RX8 : ∀ w ∈ wsX80, w ∈ wsX8_name := by decide +kernel
theorem lk_X8_name_103 : Cond.fieldLink RX8 103 "ThornCoresModel" "at" "I" ∈ wsX8_name := by decide +kernel
theorem lk_X8_name_100 : Cond.fieldLink RX8 100 "ThornCoresModel" "length" "I" ∈ wsX8_name := by decide +kernel
theorem lk_X8_name_106 : Cond.fieldLink RX8 106 "ThornCoresModel" "isWrong" "Z" ∈ wsX8_name := by decide +kernel
theorem lk_X8_name_19 : Cond.fieldLink RX8 19 "ThornCoresModel" "text" "[I" ∈ wsX8_name := by decide +kernel
set_option maxRecDepth 20000 in
set_option maxHeartbeats 4000000 in
theorem c_X8_name {l : Launch} {D : va_G} {ad : Nat → Nat} {cI cL : ClassId} (hfl : l.flags = flags0) (hok : adOK ad) (μ : Mem) (x : Int32) (w i : Nat) (wr : Bool) (hP : Pa μ w i wr) : CtI l D ad cI cL yX8_name wsX8_name (RM 1 22) [.ref (ad 25), .int x] μ (fun (r : Int32) (μ' : Mem) => r = nmC (μ 29) w i wr - 97 ∧ ∃ u, μ' = mset μ 25 u ∧ u 11 = nI (nmI (μ 29) w i wr x) ∧ u 12 = b2i (nmB (μ 29) w i wr x) ∧ ∀ f, f ≠ 11 → f ≠ 12 → u f = μ 25 f) := by
  refine ct_i (cc := cX8_name) (maxL := 3) (own := RX8) .int hfl hok (by decide) rfl rfl rfl (Nat.le_of_ble_eq_true rfl) (fun p e s m below meth c C hr => ?_)
  refine go_lv (lv' := [some (.ref (ad 25)), some (.int x), none]) rfl ?_
  obtain ⟨e11, e6, e12, hiw, hw⟩ := id hP
  refine go_aload0 C (pc := 0) dX8_name_0 ?_
  refine go_get C (pc := 1) 25 (by decide) rfl rfl 11 (by decide) rfl rfl hi_X8_name_RX8 lk_X8_name_103 dX8_name_1 ?_
  refine go_top (y := nI (i)) (e11) ?_
  refine go_aload0 C (pc := 4) dX8_name_4 ?_
  refine go_get C (pc := 5) 25 (by decide) rfl rfl 6 (by decide) rfl rfl hi_X8_name_RX8 lk_X8_name_100 dX8_name_5 ?_
  refine go_top (y := nI (w)) (e6) ?_
  refine go_icmp_ge C (pc := 8) (tgt := 30) dX8_name_8 (by decide) (fun h8 => ?_) (fun h8 => ?_)
  · refine go_iconst C (pc := 30) (v := 0) (by decide) dX8_name_30 ?_
    refine go_istore2 C (pc := 31) dX8_name_31 ?_
    refine go_aload0 C (pc := 32) dX8_name_32 ?_
    refine go_aload0 C (pc := 33) dX8_name_33 ?_
    refine go_get C (pc := 34) 25 (by decide) rfl rfl 12 (by decide) rfl rfl hi_X8_name_RX8 lk_X8_name_106 dX8_name_34 ?_
    refine go_top (y := b2i wr) e12 ?_
    refine go_if_ne C (pc := 37) (tgt := 56) dX8_name_37 (by decide) (fun h37 => ?_) (fun h37 => ?_)
    · refine go_iconst C (pc := 56) (v := 1) (by decide) dX8_name_56 ?_
      refine go_goto C (pc := 57) (tgt := 61) dX8_name_57 (by decide) ?_
      refine go_put C (pc := 61) 25 (by decide) rfl rfl 12 (by decide) rfl hi_X8_name_RX8 lk_X8_name_106 tyX8_ok nmX8 rfl (nar_z (by decide)) rfl (Nat.le_of_ble_eq_true rfl) rfl dX8_name_61 ?_
      refine go_aload0 C (pc := 64) dX8_name_64 ?_
      refine go_dup C (pc := 65) rfl dX8_name_65 ?_
      refine go_get C (pc := 66) 25 (by decide) rfl rfl 11 (by decide) rfl rfl hi_X8_name_RX8 lk_X8_name_103 dX8_name_66 ?_
      refine go_aload0 C (pc := 69) dX8_name_69 ?_
      refine go_get C (pc := 70) 25 (by decide) rfl rfl 12 (by decide) rfl rfl hi_X8_name_RX8 lk_X8_name_106 dX8_name_70 ?_
      refine go_if_eq C (pc := 73) (tgt := 80) dX8_name_73 (by decide) (fun h73 => ?_) (fun h73 => ?_)
      · refine go_iconst C (pc := 80) (v := 1) (by decide) dX8_name_80 ?_
        refine go_iadd C (pc := 81) dX8_name_81 ?_
        refine go_put C (pc := 82) 25 (by decide) rfl rfl 11 (by decide) rfl hi_X8_name_RX8 lk_X8_name_103 tyX8_ok nmX8 rfl rfl rfl (Nat.le_of_ble_eq_true rfl) rfl dX8_name_82 ?_
        refine go_iload2 C (pc := 85) dX8_name_85 ?_
        refine go_bipush C (pc := 86) (v := 97) (by decide) dX8_name_86 ?_
        refine go_isub C (pc := 88) dX8_name_88 ?_
        exact absurd (show (1 : Int32) = 0 from h73) (by decide)
      · refine go_iconst C (pc := 76) (v := 0) (by decide) dX8_name_76 ?_
        refine go_goto C (pc := 77) (tgt := 81) dX8_name_77 (by decide) ?_
        refine go_iadd C (pc := 81) dX8_name_81 ?_
        refine go_put C (pc := 82) 25 (by decide) rfl rfl 11 (by decide) rfl hi_X8_name_RX8 lk_X8_name_103 tyX8_ok nmX8 rfl rfl rfl (Nat.le_of_ble_eq_true rfl) rfl dX8_name_82 ?_
        refine go_iload2 C (pc := 85) dX8_name_85 ?_
        refine go_bipush C (pc := 86) (v := 97) (by decide) dX8_name_86 ?_
        refine go_isub C (pc := 88) dX8_name_88 ?_
        have hcc : nmC (μ 29) w i wr = 0 := if_neg (fun u => nI_ge u.1 (by omega) h8)
        have hnb : inR (0) 97 112 = nameB (0) := rfl
        have hb : nmB (μ 29) w i wr x = true := by rw [nmB, bneg h37]; rfl
        exact go_iret C hr dX8_name_89 ⟨by rw [hcc], _, mset_mset μ 25 _ _, by rw [nmI, if_pos hb]; exact (Int32.add_zero _).trans e11, by rw [hb]; rfl, fun f hf hf2 => (pk_un hf).trans (pk_un hf2)⟩
    · refine go_iload2 C (pc := 40) dX8_name_40 ?_
      refine go_bipush C (pc := 41) (v := 97) (by decide) dX8_name_41 ?_
      refine go_bipush C (pc := 43) (v := 112) (by decide) dX8_name_43 ?_
      refine go_ciS3 C (pc := 45) (c_X8_in C.fl C.ok _ _ _ _ ) gX8_name_X8_in rfl yok_X8_in ⟨rfl, rfl⟩ ⟨Nat.le_of_ble_eq_true rfl, Nat.le_of_ble_eq_true rfl⟩ (Nat.le_of_ble_eq_true rfl) ⟨Nat.zero_le _, Nat.zero_le _⟩ dX8_name_45 (fun r4 μ4 hc4 => ?_)
      obtain ⟨rfl, hm4⟩ := hc4
      replace hm4 := hm4.symm
      subst hm4
      refine go_if_eq C (pc := 48) (tgt := 56) dX8_name_48 (by decide) (fun h48 => ?_) (fun h48 => ?_)
      · refine go_iconst C (pc := 56) (v := 1) (by decide) dX8_name_56 ?_
        refine go_goto C (pc := 57) (tgt := 61) dX8_name_57 (by decide) ?_
        refine go_put C (pc := 61) 25 (by decide) rfl rfl 12 (by decide) rfl hi_X8_name_RX8 lk_X8_name_106 tyX8_ok nmX8 rfl (nar_z (by decide)) rfl (Nat.le_of_ble_eq_true rfl) rfl dX8_name_61 ?_
        refine go_aload0 C (pc := 64) dX8_name_64 ?_
        refine go_dup C (pc := 65) rfl dX8_name_65 ?_
        refine go_get C (pc := 66) 25 (by decide) rfl rfl 11 (by decide) rfl rfl hi_X8_name_RX8 lk_X8_name_103 dX8_name_66 ?_
        refine go_aload0 C (pc := 69) dX8_name_69 ?_
        refine go_get C (pc := 70) 25 (by decide) rfl rfl 12 (by decide) rfl rfl hi_X8_name_RX8 lk_X8_name_106 dX8_name_70 ?_
        refine go_if_eq C (pc := 73) (tgt := 80) dX8_name_73 (by decide) (fun h73 => ?_) (fun h73 => ?_)
        · refine go_iconst C (pc := 80) (v := 1) (by decide) dX8_name_80 ?_
          refine go_iadd C (pc := 81) dX8_name_81 ?_
          refine go_put C (pc := 82) 25 (by decide) rfl rfl 11 (by decide) rfl hi_X8_name_RX8 lk_X8_name_103 tyX8_ok nmX8 rfl rfl rfl (Nat.le_of_ble_eq_true rfl) rfl dX8_name_82 ?_
          refine go_iload2 C (pc := 85) dX8_name_85 ?_
          refine go_bipush C (pc := 86) (v := 97) (by decide) dX8_name_86 ?_
          refine go_isub C (pc := 88) dX8_name_88 ?_
          exact absurd (show (1 : Int32) = 0 from h73) (by decide)
        · refine go_iconst C (pc := 76) (v := 0) (by decide) dX8_name_76 ?_
          refine go_goto C (pc := 77) (tgt := 81) dX8_name_77 (by decide) ?_
          refine go_iadd C (pc := 81) dX8_name_81 ?_
          refine go_put C (pc := 82) 25 (by decide) rfl rfl 11 (by decide) rfl hi_X8_name_RX8 lk_X8_name_103 tyX8_ok nmX8 rfl rfl rfl (Nat.le_of_ble_eq_true rfl) rfl dX8_name_82 ?_
          refine go_iload2 C (pc := 85) dX8_name_85 ?_
          refine go_bipush C (pc := 86) (v := 97) (by decide) dX8_name_86 ?_
          refine go_isub C (pc := 88) dX8_name_88 ?_
          have hcc : nmC (μ 29) w i wr = 0 := if_neg (fun u => nI_ge u.1 (by omega) h8)
          have hnb : inR (0) 97 112 = nameB (0) := rfl
          have hb : nmB (μ 29) w i wr x = true := by rw [nmB, hcc, ← hnb, bpos h48, Bool.not_false, Bool.true_or, Bool.or_true]
          exact go_iret C hr dX8_name_89 ⟨by rw [hcc], _, mset_mset μ 25 _ _, by rw [nmI, if_pos hb]; exact (Int32.add_zero _).trans e11, by rw [hb]; rfl, fun f hf hf2 => (pk_un hf).trans (pk_un hf2)⟩
      · refine go_iload2 C (pc := 51) dX8_name_51 ?_
        refine go_iload1 C (pc := 52) dX8_name_52 ?_
        refine go_icmp_ne C (pc := 53) (tgt := 60) dX8_name_53 (by decide) (fun h53 => ?_) (fun h53 => ?_)
        · refine go_iconst C (pc := 60) (v := 0) (by decide) dX8_name_60 ?_
          refine go_put C (pc := 61) 25 (by decide) rfl rfl 12 (by decide) rfl hi_X8_name_RX8 lk_X8_name_106 tyX8_ok nmX8 rfl (nar_z (by decide)) rfl (Nat.le_of_ble_eq_true rfl) rfl dX8_name_61 ?_
          refine go_aload0 C (pc := 64) dX8_name_64 ?_
          refine go_dup C (pc := 65) rfl dX8_name_65 ?_
          refine go_get C (pc := 66) 25 (by decide) rfl rfl 11 (by decide) rfl rfl hi_X8_name_RX8 lk_X8_name_103 dX8_name_66 ?_
          refine go_aload0 C (pc := 69) dX8_name_69 ?_
          refine go_get C (pc := 70) 25 (by decide) rfl rfl 12 (by decide) rfl rfl hi_X8_name_RX8 lk_X8_name_106 dX8_name_70 ?_
          refine go_if_eq C (pc := 73) (tgt := 80) dX8_name_73 (by decide) (fun h73 => ?_) (fun h73 => ?_)
          · refine go_iconst C (pc := 80) (v := 1) (by decide) dX8_name_80 ?_
            refine go_iadd C (pc := 81) dX8_name_81 ?_
            refine go_put C (pc := 82) 25 (by decide) rfl rfl 11 (by decide) rfl hi_X8_name_RX8 lk_X8_name_103 tyX8_ok nmX8 rfl rfl rfl (Nat.le_of_ble_eq_true rfl) rfl dX8_name_82 ?_
            refine go_iload2 C (pc := 85) dX8_name_85 ?_
            refine go_bipush C (pc := 86) (v := 97) (by decide) dX8_name_86 ?_
            refine go_isub C (pc := 88) dX8_name_88 ?_
            have hcc : nmC (μ 29) w i wr = 0 := if_neg (fun u => nI_ge u.1 (by omega) h8)
            have hnb : inR (0) 97 112 = nameB (0) := rfl
            have hb : nmB (μ 29) w i wr x = false := by rw [nmB, hcc, ← hnb, bneg h48, bpos h37, decide_eq_false h53]; rfl
            exact go_iret C hr dX8_name_89 ⟨by rw [hcc], _, mset_mset μ 25 _ _, by rw [nmI, if_neg (by rw [hb]; decide)]; exact (congrArg (· + 1) e11).trans (nI_1 i), by rw [hb]; rfl, fun f hf hf2 => (pk_un hf).trans (pk_un hf2)⟩
          · refine go_iconst C (pc := 76) (v := 0) (by decide) dX8_name_76 ?_
            refine go_goto C (pc := 77) (tgt := 81) dX8_name_77 (by decide) ?_
            refine go_iadd C (pc := 81) dX8_name_81 ?_
            refine go_put C (pc := 82) 25 (by decide) rfl rfl 11 (by decide) rfl hi_X8_name_RX8 lk_X8_name_103 tyX8_ok nmX8 rfl rfl rfl (Nat.le_of_ble_eq_true rfl) rfl dX8_name_82 ?_
            refine go_iload2 C (pc := 85) dX8_name_85 ?_
            refine go_bipush C (pc := 86) (v := 97) (by decide) dX8_name_86 ?_
            refine go_isub C (pc := 88) dX8_name_88 ?_
            exact absurd rfl (show ¬ (0 : Int32) = 0 from h73)
        · refine go_iconst C (pc := 56) (v := 1) (by decide) dX8_name_56 ?_
          refine go_goto C (pc := 57) (tgt := 61) dX8_name_57 (by decide) ?_
          refine go_put C (pc := 61) 25 (by decide) rfl rfl 12 (by decide) rfl hi_X8_name_RX8 lk_X8_name_106 tyX8_ok nmX8 rfl (nar_z (by decide)) rfl (Nat.le_of_ble_eq_true rfl) rfl dX8_name_61 ?_
          refine go_aload0 C (pc := 64) dX8_name_64 ?_
          refine go_dup C (pc := 65) rfl dX8_name_65 ?_
          refine go_get C (pc := 66) 25 (by decide) rfl rfl 11 (by decide) rfl rfl hi_X8_name_RX8 lk_X8_name_103 dX8_name_66 ?_
          refine go_aload0 C (pc := 69) dX8_name_69 ?_
          refine go_get C (pc := 70) 25 (by decide) rfl rfl 12 (by decide) rfl rfl hi_X8_name_RX8 lk_X8_name_106 dX8_name_70 ?_
          refine go_if_eq C (pc := 73) (tgt := 80) dX8_name_73 (by decide) (fun h73 => ?_) (fun h73 => ?_)
          · refine go_iconst C (pc := 80) (v := 1) (by decide) dX8_name_80 ?_
            refine go_iadd C (pc := 81) dX8_name_81 ?_
            refine go_put C (pc := 82) 25 (by decide) rfl rfl 11 (by decide) rfl hi_X8_name_RX8 lk_X8_name_103 tyX8_ok nmX8 rfl rfl rfl (Nat.le_of_ble_eq_true rfl) rfl dX8_name_82 ?_
            refine go_iload2 C (pc := 85) dX8_name_85 ?_
            refine go_bipush C (pc := 86) (v := 97) (by decide) dX8_name_86 ?_
            refine go_isub C (pc := 88) dX8_name_88 ?_
            exact absurd (show (1 : Int32) = 0 from h73) (by decide)
          · refine go_iconst C (pc := 76) (v := 0) (by decide) dX8_name_76 ?_
            refine go_goto C (pc := 77) (tgt := 81) dX8_name_77 (by decide) ?_
            refine go_iadd C (pc := 81) dX8_name_81 ?_
            refine go_put C (pc := 82) 25 (by decide) rfl rfl 11 (by decide) rfl hi_X8_name_RX8 lk_X8_name_103 tyX8_ok nmX8 rfl rfl rfl (Nat.le_of_ble_eq_true rfl) rfl dX8_name_82 ?_
            refine go_iload2 C (pc := 85) dX8_name_85 ?_
            refine go_bipush C (pc := 86) (v := 97) (by decide) dX8_name_86 ?_
            refine go_isub C (pc := 88) dX8_name_88 ?_
            have hcc : nmC (μ 29) w i wr = 0 := if_neg (fun u => nI_ge u.1 (by omega) h8)
            have hnb : inR (0) 97 112 = nameB (0) := rfl
            have hb : nmB (μ 29) w i wr x = true := by rw [nmB, hcc, decide_eq_true h53, Bool.or_true, Bool.or_true]
            exact go_iret C hr dX8_name_89 ⟨by rw [hcc], _, mset_mset μ 25 _ _, by rw [nmI, if_pos hb]; exact (Int32.add_zero _).trans e11, by rw [hb]; rfl, fun f hf hf2 => (pk_un hf).trans (pk_un hf2)⟩
  · refine go_aload0 C (pc := 11) dX8_name_11 ?_
    refine go_get C (pc := 12) 25 (by decide) rfl rfl 12 (by decide) rfl rfl hi_X8_name_RX8 lk_X8_name_106 dX8_name_12 ?_
    refine go_top (y := b2i wr) e12 ?_
    refine go_if_ne C (pc := 15) (tgt := 30) dX8_name_15 (by decide) (fun h15 => ?_) (fun h15 => ?_)
    · refine go_iconst C (pc := 30) (v := 0) (by decide) dX8_name_30 ?_
      refine go_istore2 C (pc := 31) dX8_name_31 ?_
      refine go_aload0 C (pc := 32) dX8_name_32 ?_
      refine go_aload0 C (pc := 33) dX8_name_33 ?_
      refine go_get C (pc := 34) 25 (by decide) rfl rfl 12 (by decide) rfl rfl hi_X8_name_RX8 lk_X8_name_106 dX8_name_34 ?_
      refine go_top (y := b2i wr) e12 ?_
      refine go_if_ne C (pc := 37) (tgt := 56) dX8_name_37 (by decide) (fun h37 => ?_) (fun h37 => ?_)
      · refine go_iconst C (pc := 56) (v := 1) (by decide) dX8_name_56 ?_
        refine go_goto C (pc := 57) (tgt := 61) dX8_name_57 (by decide) ?_
        refine go_put C (pc := 61) 25 (by decide) rfl rfl 12 (by decide) rfl hi_X8_name_RX8 lk_X8_name_106 tyX8_ok nmX8 rfl (nar_z (by decide)) rfl (Nat.le_of_ble_eq_true rfl) rfl dX8_name_61 ?_
        refine go_aload0 C (pc := 64) dX8_name_64 ?_
        refine go_dup C (pc := 65) rfl dX8_name_65 ?_
        refine go_get C (pc := 66) 25 (by decide) rfl rfl 11 (by decide) rfl rfl hi_X8_name_RX8 lk_X8_name_103 dX8_name_66 ?_
        refine go_aload0 C (pc := 69) dX8_name_69 ?_
        refine go_get C (pc := 70) 25 (by decide) rfl rfl 12 (by decide) rfl rfl hi_X8_name_RX8 lk_X8_name_106 dX8_name_70 ?_
        refine go_if_eq C (pc := 73) (tgt := 80) dX8_name_73 (by decide) (fun h73 => ?_) (fun h73 => ?_)
        · refine go_iconst C (pc := 80) (v := 1) (by decide) dX8_name_80 ?_
          refine go_iadd C (pc := 81) dX8_name_81 ?_
          refine go_put C (pc := 82) 25 (by decide) rfl rfl 11 (by decide) rfl hi_X8_name_RX8 lk_X8_name_103 tyX8_ok nmX8 rfl rfl rfl (Nat.le_of_ble_eq_true rfl) rfl dX8_name_82 ?_
          refine go_iload2 C (pc := 85) dX8_name_85 ?_
          refine go_bipush C (pc := 86) (v := 97) (by decide) dX8_name_86 ?_
          refine go_isub C (pc := 88) dX8_name_88 ?_
          exact absurd (show (1 : Int32) = 0 from h73) (by decide)
        · refine go_iconst C (pc := 76) (v := 0) (by decide) dX8_name_76 ?_
          refine go_goto C (pc := 77) (tgt := 81) dX8_name_77 (by decide) ?_
          refine go_iadd C (pc := 81) dX8_name_81 ?_
          refine go_put C (pc := 82) 25 (by decide) rfl rfl 11 (by decide) rfl hi_X8_name_RX8 lk_X8_name_103 tyX8_ok nmX8 rfl rfl rfl (Nat.le_of_ble_eq_true rfl) rfl dX8_name_82 ?_
          refine go_iload2 C (pc := 85) dX8_name_85 ?_
          refine go_bipush C (pc := 86) (v := 97) (by decide) dX8_name_86 ?_
          refine go_isub C (pc := 88) dX8_name_88 ?_
          have hcc : nmC (μ 29) w i wr = 0 := if_neg (fun u => by rw [u.2] at h15; exact absurd h15 (by decide))
          have hnb : inR (0) 97 112 = nameB (0) := rfl
          have hb : nmB (μ 29) w i wr x = true := by rw [nmB, bneg h37]; rfl
          exact go_iret C hr dX8_name_89 ⟨by rw [hcc], _, mset_mset μ 25 _ _, by rw [nmI, if_pos hb]; exact (Int32.add_zero _).trans e11, by rw [hb]; rfl, fun f hf hf2 => (pk_un hf).trans (pk_un hf2)⟩
      · refine go_iload2 C (pc := 40) dX8_name_40 ?_
        refine go_bipush C (pc := 41) (v := 97) (by decide) dX8_name_41 ?_
        refine go_bipush C (pc := 43) (v := 112) (by decide) dX8_name_43 ?_
        refine go_ciS3 C (pc := 45) (c_X8_in C.fl C.ok _ _ _ _ ) gX8_name_X8_in rfl yok_X8_in ⟨rfl, rfl⟩ ⟨Nat.le_of_ble_eq_true rfl, Nat.le_of_ble_eq_true rfl⟩ (Nat.le_of_ble_eq_true rfl) ⟨Nat.zero_le _, Nat.zero_le _⟩ dX8_name_45 (fun r13 μ13 hc13 => ?_)
        obtain ⟨rfl, hm13⟩ := hc13
        replace hm13 := hm13.symm
        subst hm13
        refine go_if_eq C (pc := 48) (tgt := 56) dX8_name_48 (by decide) (fun h48 => ?_) (fun h48 => ?_)
        · refine go_iconst C (pc := 56) (v := 1) (by decide) dX8_name_56 ?_
          refine go_goto C (pc := 57) (tgt := 61) dX8_name_57 (by decide) ?_
          refine go_put C (pc := 61) 25 (by decide) rfl rfl 12 (by decide) rfl hi_X8_name_RX8 lk_X8_name_106 tyX8_ok nmX8 rfl (nar_z (by decide)) rfl (Nat.le_of_ble_eq_true rfl) rfl dX8_name_61 ?_
          refine go_aload0 C (pc := 64) dX8_name_64 ?_
          refine go_dup C (pc := 65) rfl dX8_name_65 ?_
          refine go_get C (pc := 66) 25 (by decide) rfl rfl 11 (by decide) rfl rfl hi_X8_name_RX8 lk_X8_name_103 dX8_name_66 ?_
          refine go_aload0 C (pc := 69) dX8_name_69 ?_
          refine go_get C (pc := 70) 25 (by decide) rfl rfl 12 (by decide) rfl rfl hi_X8_name_RX8 lk_X8_name_106 dX8_name_70 ?_
          refine go_if_eq C (pc := 73) (tgt := 80) dX8_name_73 (by decide) (fun h73 => ?_) (fun h73 => ?_)
          · refine go_iconst C (pc := 80) (v := 1) (by decide) dX8_name_80 ?_
            refine go_iadd C (pc := 81) dX8_name_81 ?_
            refine go_put C (pc := 82) 25 (by decide) rfl rfl 11 (by decide) rfl hi_X8_name_RX8 lk_X8_name_103 tyX8_ok nmX8 rfl rfl rfl (Nat.le_of_ble_eq_true rfl) rfl dX8_name_82 ?_
            refine go_iload2 C (pc := 85) dX8_name_85 ?_
            refine go_bipush C (pc := 86) (v := 97) (by decide) dX8_name_86 ?_
            refine go_isub C (pc := 88) dX8_name_88 ?_
            exact absurd (show (1 : Int32) = 0 from h73) (by decide)
          · refine go_iconst C (pc := 76) (v := 0) (by decide) dX8_name_76 ?_
            refine go_goto C (pc := 77) (tgt := 81) dX8_name_77 (by decide) ?_
            refine go_iadd C (pc := 81) dX8_name_81 ?_
            refine go_put C (pc := 82) 25 (by decide) rfl rfl 11 (by decide) rfl hi_X8_name_RX8 lk_X8_name_103 tyX8_ok nmX8 rfl rfl rfl (Nat.le_of_ble_eq_true rfl) rfl dX8_name_82 ?_
            refine go_iload2 C (pc := 85) dX8_name_85 ?_
            refine go_bipush C (pc := 86) (v := 97) (by decide) dX8_name_86 ?_
            refine go_isub C (pc := 88) dX8_name_88 ?_
            have hcc : nmC (μ 29) w i wr = 0 := if_neg (fun u => by rw [u.2] at h15; exact absurd h15 (by decide))
            have hnb : inR (0) 97 112 = nameB (0) := rfl
            have hb : nmB (μ 29) w i wr x = true := by rw [nmB, hcc, ← hnb, bpos h48, Bool.not_false, Bool.true_or, Bool.or_true]
            exact go_iret C hr dX8_name_89 ⟨by rw [hcc], _, mset_mset μ 25 _ _, by rw [nmI, if_pos hb]; exact (Int32.add_zero _).trans e11, by rw [hb]; rfl, fun f hf hf2 => (pk_un hf).trans (pk_un hf2)⟩
        · refine go_iload2 C (pc := 51) dX8_name_51 ?_
          refine go_iload1 C (pc := 52) dX8_name_52 ?_
          refine go_icmp_ne C (pc := 53) (tgt := 60) dX8_name_53 (by decide) (fun h53 => ?_) (fun h53 => ?_)
          · refine go_iconst C (pc := 60) (v := 0) (by decide) dX8_name_60 ?_
            refine go_put C (pc := 61) 25 (by decide) rfl rfl 12 (by decide) rfl hi_X8_name_RX8 lk_X8_name_106 tyX8_ok nmX8 rfl (nar_z (by decide)) rfl (Nat.le_of_ble_eq_true rfl) rfl dX8_name_61 ?_
            refine go_aload0 C (pc := 64) dX8_name_64 ?_
            refine go_dup C (pc := 65) rfl dX8_name_65 ?_
            refine go_get C (pc := 66) 25 (by decide) rfl rfl 11 (by decide) rfl rfl hi_X8_name_RX8 lk_X8_name_103 dX8_name_66 ?_
            refine go_aload0 C (pc := 69) dX8_name_69 ?_
            refine go_get C (pc := 70) 25 (by decide) rfl rfl 12 (by decide) rfl rfl hi_X8_name_RX8 lk_X8_name_106 dX8_name_70 ?_
            refine go_if_eq C (pc := 73) (tgt := 80) dX8_name_73 (by decide) (fun h73 => ?_) (fun h73 => ?_)
            · refine go_iconst C (pc := 80) (v := 1) (by decide) dX8_name_80 ?_
              refine go_iadd C (pc := 81) dX8_name_81 ?_
              refine go_put C (pc := 82) 25 (by decide) rfl rfl 11 (by decide) rfl hi_X8_name_RX8 lk_X8_name_103 tyX8_ok nmX8 rfl rfl rfl (Nat.le_of_ble_eq_true rfl) rfl dX8_name_82 ?_
              refine go_iload2 C (pc := 85) dX8_name_85 ?_
              refine go_bipush C (pc := 86) (v := 97) (by decide) dX8_name_86 ?_
              refine go_isub C (pc := 88) dX8_name_88 ?_
              have hcc : nmC (μ 29) w i wr = 0 := if_neg (fun u => by rw [u.2] at h15; exact absurd h15 (by decide))
              have hnb : inR (0) 97 112 = nameB (0) := rfl
              have hb : nmB (μ 29) w i wr x = false := by rw [nmB, hcc, ← hnb, bneg h48, bpos h37, decide_eq_false h53]; rfl
              exact go_iret C hr dX8_name_89 ⟨by rw [hcc], _, mset_mset μ 25 _ _, by rw [nmI, if_neg (by rw [hb]; decide)]; exact (congrArg (· + 1) e11).trans (nI_1 i), by rw [hb]; rfl, fun f hf hf2 => (pk_un hf).trans (pk_un hf2)⟩
            · refine go_iconst C (pc := 76) (v := 0) (by decide) dX8_name_76 ?_
              refine go_goto C (pc := 77) (tgt := 81) dX8_name_77 (by decide) ?_
              refine go_iadd C (pc := 81) dX8_name_81 ?_
              refine go_put C (pc := 82) 25 (by decide) rfl rfl 11 (by decide) rfl hi_X8_name_RX8 lk_X8_name_103 tyX8_ok nmX8 rfl rfl rfl (Nat.le_of_ble_eq_true rfl) rfl dX8_name_82 ?_
              refine go_iload2 C (pc := 85) dX8_name_85 ?_
              refine go_bipush C (pc := 86) (v := 97) (by decide) dX8_name_86 ?_
              refine go_isub C (pc := 88) dX8_name_88 ?_
              exact absurd rfl (show ¬ (0 : Int32) = 0 from h73)
          · refine go_iconst C (pc := 56) (v := 1) (by decide) dX8_name_56 ?_
            refine go_goto C (pc := 57) (tgt := 61) dX8_name_57 (by decide) ?_
            refine go_put C (pc := 61) 25 (by decide) rfl rfl 12 (by decide) rfl hi_X8_name_RX8 lk_X8_name_106 tyX8_ok nmX8 rfl (nar_z (by decide)) rfl (Nat.le_of_ble_eq_true rfl) rfl dX8_name_61 ?_
            refine go_aload0 C (pc := 64) dX8_name_64 ?_
            refine go_dup C (pc := 65) rfl dX8_name_65 ?_
            refine go_get C (pc := 66) 25 (by decide) rfl rfl 11 (by decide) rfl rfl hi_X8_name_RX8 lk_X8_name_103 dX8_name_66 ?_
            refine go_aload0 C (pc := 69) dX8_name_69 ?_
            refine go_get C (pc := 70) 25 (by decide) rfl rfl 12 (by decide) rfl rfl hi_X8_name_RX8 lk_X8_name_106 dX8_name_70 ?_
            refine go_if_eq C (pc := 73) (tgt := 80) dX8_name_73 (by decide) (fun h73 => ?_) (fun h73 => ?_)
            · refine go_iconst C (pc := 80) (v := 1) (by decide) dX8_name_80 ?_
              refine go_iadd C (pc := 81) dX8_name_81 ?_
              refine go_put C (pc := 82) 25 (by decide) rfl rfl 11 (by decide) rfl hi_X8_name_RX8 lk_X8_name_103 tyX8_ok nmX8 rfl rfl rfl (Nat.le_of_ble_eq_true rfl) rfl dX8_name_82 ?_
              refine go_iload2 C (pc := 85) dX8_name_85 ?_
              refine go_bipush C (pc := 86) (v := 97) (by decide) dX8_name_86 ?_
              refine go_isub C (pc := 88) dX8_name_88 ?_
              exact absurd (show (1 : Int32) = 0 from h73) (by decide)
            · refine go_iconst C (pc := 76) (v := 0) (by decide) dX8_name_76 ?_
              refine go_goto C (pc := 77) (tgt := 81) dX8_name_77 (by decide) ?_
              refine go_iadd C (pc := 81) dX8_name_81 ?_
              refine go_put C (pc := 82) 25 (by decide) rfl rfl 11 (by decide) rfl hi_X8_name_RX8 lk_X8_name_103 tyX8_ok nmX8 rfl rfl rfl (Nat.le_of_ble_eq_true rfl) rfl dX8_name_82 ?_
              refine go_iload2 C (pc := 85) dX8_name_85 ?_
              refine go_bipush C (pc := 86) (v := 97) (by decide) dX8_name_86 ?_
              refine go_isub C (pc := 88) dX8_name_88 ?_
              have hcc : nmC (μ 29) w i wr = 0 := if_neg (fun u => by rw [u.2] at h15; exact absurd h15 (by decide))
              have hnb : inR (0) 97 112 = nameB (0) := rfl
              have hb : nmB (μ 29) w i wr x = true := by rw [nmB, hcc, decide_eq_true h53, Bool.or_true, Bool.or_true]
              exact go_iret C hr dX8_name_89 ⟨by rw [hcc], _, mset_mset μ 25 _ _, by rw [nmI, if_pos hb]; exact (Int32.add_zero _).trans e11, by rw [hb]; rfl, fun f hf hf2 => (pk_un hf).trans (pk_un hf2)⟩
    · refine go_aload0 C (pc := 18) dX8_name_18 ?_
      refine go_get C (pc := 19) 25 (by decide) rfl rfl 5 (by decide) rfl rfl hi_X8_name_RX8 lk_X8_name_19 dX8_name_19 ?_
      refine go_aload0 C (pc := 22) dX8_name_22 ?_
      refine go_get C (pc := 23) 25 (by decide) rfl rfl 11 (by decide) rfl rfl hi_X8_name_RX8 lk_X8_name_103 dX8_name_23 ?_
      refine go_top (y := nI (i)) (e11) ?_
      refine go_ialdN C (pc := 26) arr_29 (i := i) (by have : i < w := Nat.lt_of_not_le (fun z => h8 (nI_le z (by omega))); omega) dX8_name_26 ?_
      refine go_goto C (pc := 27) (tgt := 31) dX8_name_27 (by decide) ?_
      refine go_istore2 C (pc := 31) dX8_name_31 ?_
      refine go_aload0 C (pc := 32) dX8_name_32 ?_
      refine go_aload0 C (pc := 33) dX8_name_33 ?_
      refine go_get C (pc := 34) 25 (by decide) rfl rfl 12 (by decide) rfl rfl hi_X8_name_RX8 lk_X8_name_106 dX8_name_34 ?_
      refine go_top (y := b2i wr) e12 ?_
      refine go_if_ne C (pc := 37) (tgt := 56) dX8_name_37 (by decide) (fun h37 => ?_) (fun h37 => ?_)
      · refine go_iconst C (pc := 56) (v := 1) (by decide) dX8_name_56 ?_
        refine go_goto C (pc := 57) (tgt := 61) dX8_name_57 (by decide) ?_
        refine go_put C (pc := 61) 25 (by decide) rfl rfl 12 (by decide) rfl hi_X8_name_RX8 lk_X8_name_106 tyX8_ok nmX8 rfl (nar_z (by decide)) rfl (Nat.le_of_ble_eq_true rfl) rfl dX8_name_61 ?_
        refine go_aload0 C (pc := 64) dX8_name_64 ?_
        refine go_dup C (pc := 65) rfl dX8_name_65 ?_
        refine go_get C (pc := 66) 25 (by decide) rfl rfl 11 (by decide) rfl rfl hi_X8_name_RX8 lk_X8_name_103 dX8_name_66 ?_
        refine go_aload0 C (pc := 69) dX8_name_69 ?_
        refine go_get C (pc := 70) 25 (by decide) rfl rfl 12 (by decide) rfl rfl hi_X8_name_RX8 lk_X8_name_106 dX8_name_70 ?_
        refine go_if_eq C (pc := 73) (tgt := 80) dX8_name_73 (by decide) (fun h73 => ?_) (fun h73 => ?_)
        · refine go_iconst C (pc := 80) (v := 1) (by decide) dX8_name_80 ?_
          refine go_iadd C (pc := 81) dX8_name_81 ?_
          refine go_put C (pc := 82) 25 (by decide) rfl rfl 11 (by decide) rfl hi_X8_name_RX8 lk_X8_name_103 tyX8_ok nmX8 rfl rfl rfl (Nat.le_of_ble_eq_true rfl) rfl dX8_name_82 ?_
          refine go_iload2 C (pc := 85) dX8_name_85 ?_
          refine go_bipush C (pc := 86) (v := 97) (by decide) dX8_name_86 ?_
          refine go_isub C (pc := 88) dX8_name_88 ?_
          exact absurd (show (1 : Int32) = 0 from h73) (by decide)
        · refine go_iconst C (pc := 76) (v := 0) (by decide) dX8_name_76 ?_
          refine go_goto C (pc := 77) (tgt := 81) dX8_name_77 (by decide) ?_
          refine go_iadd C (pc := 81) dX8_name_81 ?_
          refine go_put C (pc := 82) 25 (by decide) rfl rfl 11 (by decide) rfl hi_X8_name_RX8 lk_X8_name_103 tyX8_ok nmX8 rfl rfl rfl (Nat.le_of_ble_eq_true rfl) rfl dX8_name_82 ?_
          refine go_iload2 C (pc := 85) dX8_name_85 ?_
          refine go_bipush C (pc := 86) (v := 97) (by decide) dX8_name_86 ?_
          refine go_isub C (pc := 88) dX8_name_88 ?_
          have hcc : nmC (μ 29) w i wr = μ 29 i := if_pos ⟨Nat.lt_of_not_le (fun z => h8 (nI_le z (by omega))), bpos h15⟩
          have hnb : inR (μ 29 i) 97 112 = nameB (μ 29 i) := rfl
          have hb : nmB (μ 29) w i wr x = true := by rw [nmB, bneg h37]; rfl
          exact go_iret C hr dX8_name_89 ⟨by rw [hcc], _, mset_mset μ 25 _ _, by rw [nmI, if_pos hb]; exact (Int32.add_zero _).trans e11, by rw [hb]; rfl, fun f hf hf2 => (pk_un hf).trans (pk_un hf2)⟩
      · refine go_iload2 C (pc := 40) dX8_name_40 ?_
        refine go_bipush C (pc := 41) (v := 97) (by decide) dX8_name_41 ?_
        refine go_bipush C (pc := 43) (v := 112) (by decide) dX8_name_43 ?_
        refine go_ciS3 C (pc := 45) (c_X8_in C.fl C.ok _ _ _ _ ) gX8_name_X8_in rfl yok_X8_in ⟨rfl, rfl⟩ ⟨Nat.le_of_ble_eq_true rfl, Nat.le_of_ble_eq_true rfl⟩ (Nat.le_of_ble_eq_true rfl) ⟨Nat.zero_le _, Nat.zero_le _⟩ dX8_name_45 (fun r21 μ21 hc21 => ?_)
        obtain ⟨rfl, hm21⟩ := hc21
        replace hm21 := hm21.symm
        subst hm21
        refine go_if_eq C (pc := 48) (tgt := 56) dX8_name_48 (by decide) (fun h48 => ?_) (fun h48 => ?_)
        · refine go_iconst C (pc := 56) (v := 1) (by decide) dX8_name_56 ?_
          refine go_goto C (pc := 57) (tgt := 61) dX8_name_57 (by decide) ?_
          refine go_put C (pc := 61) 25 (by decide) rfl rfl 12 (by decide) rfl hi_X8_name_RX8 lk_X8_name_106 tyX8_ok nmX8 rfl (nar_z (by decide)) rfl (Nat.le_of_ble_eq_true rfl) rfl dX8_name_61 ?_
          refine go_aload0 C (pc := 64) dX8_name_64 ?_
          refine go_dup C (pc := 65) rfl dX8_name_65 ?_
          refine go_get C (pc := 66) 25 (by decide) rfl rfl 11 (by decide) rfl rfl hi_X8_name_RX8 lk_X8_name_103 dX8_name_66 ?_
          refine go_aload0 C (pc := 69) dX8_name_69 ?_
          refine go_get C (pc := 70) 25 (by decide) rfl rfl 12 (by decide) rfl rfl hi_X8_name_RX8 lk_X8_name_106 dX8_name_70 ?_
          refine go_if_eq C (pc := 73) (tgt := 80) dX8_name_73 (by decide) (fun h73 => ?_) (fun h73 => ?_)
          · refine go_iconst C (pc := 80) (v := 1) (by decide) dX8_name_80 ?_
            refine go_iadd C (pc := 81) dX8_name_81 ?_
            refine go_put C (pc := 82) 25 (by decide) rfl rfl 11 (by decide) rfl hi_X8_name_RX8 lk_X8_name_103 tyX8_ok nmX8 rfl rfl rfl (Nat.le_of_ble_eq_true rfl) rfl dX8_name_82 ?_
            refine go_iload2 C (pc := 85) dX8_name_85 ?_
            refine go_bipush C (pc := 86) (v := 97) (by decide) dX8_name_86 ?_
            refine go_isub C (pc := 88) dX8_name_88 ?_
            exact absurd (show (1 : Int32) = 0 from h73) (by decide)
          · refine go_iconst C (pc := 76) (v := 0) (by decide) dX8_name_76 ?_
            refine go_goto C (pc := 77) (tgt := 81) dX8_name_77 (by decide) ?_
            refine go_iadd C (pc := 81) dX8_name_81 ?_
            refine go_put C (pc := 82) 25 (by decide) rfl rfl 11 (by decide) rfl hi_X8_name_RX8 lk_X8_name_103 tyX8_ok nmX8 rfl rfl rfl (Nat.le_of_ble_eq_true rfl) rfl dX8_name_82 ?_
            refine go_iload2 C (pc := 85) dX8_name_85 ?_
            refine go_bipush C (pc := 86) (v := 97) (by decide) dX8_name_86 ?_
            refine go_isub C (pc := 88) dX8_name_88 ?_
            have hcc : nmC (μ 29) w i wr = μ 29 i := if_pos ⟨Nat.lt_of_not_le (fun z => h8 (nI_le z (by omega))), bpos h15⟩
            have hnb : inR (μ 29 i) 97 112 = nameB (μ 29 i) := rfl
            have hb : nmB (μ 29) w i wr x = true := by rw [nmB, hcc, ← hnb, bpos h48, Bool.not_false, Bool.true_or, Bool.or_true]
            exact go_iret C hr dX8_name_89 ⟨by rw [hcc], _, mset_mset μ 25 _ _, by rw [nmI, if_pos hb]; exact (Int32.add_zero _).trans e11, by rw [hb]; rfl, fun f hf hf2 => (pk_un hf).trans (pk_un hf2)⟩
        · refine go_iload2 C (pc := 51) dX8_name_51 ?_
          refine go_iload1 C (pc := 52) dX8_name_52 ?_
          refine go_icmp_ne C (pc := 53) (tgt := 60) dX8_name_53 (by decide) (fun h53 => ?_) (fun h53 => ?_)
          · refine go_iconst C (pc := 60) (v := 0) (by decide) dX8_name_60 ?_
            refine go_put C (pc := 61) 25 (by decide) rfl rfl 12 (by decide) rfl hi_X8_name_RX8 lk_X8_name_106 tyX8_ok nmX8 rfl (nar_z (by decide)) rfl (Nat.le_of_ble_eq_true rfl) rfl dX8_name_61 ?_
            refine go_aload0 C (pc := 64) dX8_name_64 ?_
            refine go_dup C (pc := 65) rfl dX8_name_65 ?_
            refine go_get C (pc := 66) 25 (by decide) rfl rfl 11 (by decide) rfl rfl hi_X8_name_RX8 lk_X8_name_103 dX8_name_66 ?_
            refine go_aload0 C (pc := 69) dX8_name_69 ?_
            refine go_get C (pc := 70) 25 (by decide) rfl rfl 12 (by decide) rfl rfl hi_X8_name_RX8 lk_X8_name_106 dX8_name_70 ?_
            refine go_if_eq C (pc := 73) (tgt := 80) dX8_name_73 (by decide) (fun h73 => ?_) (fun h73 => ?_)
            · refine go_iconst C (pc := 80) (v := 1) (by decide) dX8_name_80 ?_
              refine go_iadd C (pc := 81) dX8_name_81 ?_
              refine go_put C (pc := 82) 25 (by decide) rfl rfl 11 (by decide) rfl hi_X8_name_RX8 lk_X8_name_103 tyX8_ok nmX8 rfl rfl rfl (Nat.le_of_ble_eq_true rfl) rfl dX8_name_82 ?_
              refine go_iload2 C (pc := 85) dX8_name_85 ?_
              refine go_bipush C (pc := 86) (v := 97) (by decide) dX8_name_86 ?_
              refine go_isub C (pc := 88) dX8_name_88 ?_
              have hcc : nmC (μ 29) w i wr = μ 29 i := if_pos ⟨Nat.lt_of_not_le (fun z => h8 (nI_le z (by omega))), bpos h15⟩
              have hnb : inR (μ 29 i) 97 112 = nameB (μ 29 i) := rfl
              have hb : nmB (μ 29) w i wr x = false := by rw [nmB, hcc, ← hnb, bneg h48, bpos h37, decide_eq_false h53]; rfl
              exact go_iret C hr dX8_name_89 ⟨by rw [hcc], _, mset_mset μ 25 _ _, by rw [nmI, if_neg (by rw [hb]; decide)]; exact (congrArg (· + 1) e11).trans (nI_1 i), by rw [hb]; rfl, fun f hf hf2 => (pk_un hf).trans (pk_un hf2)⟩
            · refine go_iconst C (pc := 76) (v := 0) (by decide) dX8_name_76 ?_
              refine go_goto C (pc := 77) (tgt := 81) dX8_name_77 (by decide) ?_
              refine go_iadd C (pc := 81) dX8_name_81 ?_
              refine go_put C (pc := 82) 25 (by decide) rfl rfl 11 (by decide) rfl hi_X8_name_RX8 lk_X8_name_103 tyX8_ok nmX8 rfl rfl rfl (Nat.le_of_ble_eq_true rfl) rfl dX8_name_82 ?_
              refine go_iload2 C (pc := 85) dX8_name_85 ?_
              refine go_bipush C (pc := 86) (v := 97) (by decide) dX8_name_86 ?_
              refine go_isub C (pc := 88) dX8_name_88 ?_
              exact absurd rfl (show ¬ (0 : Int32) = 0 from h73)
          · refine go_iconst C (pc := 56) (v := 1) (by decide) dX8_name_56 ?_
            refine go_goto C (pc := 57) (tgt := 61) dX8_name_57 (by decide) ?_
            refine go_put C (pc := 61) 25 (by decide) rfl rfl 12 (by decide) rfl hi_X8_name_RX8 lk_X8_name_106 tyX8_ok nmX8 rfl (nar_z (by decide)) rfl (Nat.le_of_ble_eq_true rfl) rfl dX8_name_61 ?_
            refine go_aload0 C (pc := 64) dX8_name_64 ?_
            refine go_dup C (pc := 65) rfl dX8_name_65 ?_
            refine go_get C (pc := 66) 25 (by decide) rfl rfl 11 (by decide) rfl rfl hi_X8_name_RX8 lk_X8_name_103 dX8_name_66 ?_
            refine go_aload0 C (pc := 69) dX8_name_69 ?_
            refine go_get C (pc := 70) 25 (by decide) rfl rfl 12 (by decide) rfl rfl hi_X8_name_RX8 lk_X8_name_106 dX8_name_70 ?_
            refine go_if_eq C (pc := 73) (tgt := 80) dX8_name_73 (by decide) (fun h73 => ?_) (fun h73 => ?_)
            · refine go_iconst C (pc := 80) (v := 1) (by decide) dX8_name_80 ?_
              refine go_iadd C (pc := 81) dX8_name_81 ?_
              refine go_put C (pc := 82) 25 (by decide) rfl rfl 11 (by decide) rfl hi_X8_name_RX8 lk_X8_name_103 tyX8_ok nmX8 rfl rfl rfl (Nat.le_of_ble_eq_true rfl) rfl dX8_name_82 ?_
              refine go_iload2 C (pc := 85) dX8_name_85 ?_
              refine go_bipush C (pc := 86) (v := 97) (by decide) dX8_name_86 ?_
              refine go_isub C (pc := 88) dX8_name_88 ?_
              exact absurd (show (1 : Int32) = 0 from h73) (by decide)
            · refine go_iconst C (pc := 76) (v := 0) (by decide) dX8_name_76 ?_
              refine go_goto C (pc := 77) (tgt := 81) dX8_name_77 (by decide) ?_
              refine go_iadd C (pc := 81) dX8_name_81 ?_
              refine go_put C (pc := 82) 25 (by decide) rfl rfl 11 (by decide) rfl hi_X8_name_RX8 lk_X8_name_103 tyX8_ok nmX8 rfl rfl rfl (Nat.le_of_ble_eq_true rfl) rfl dX8_name_82 ?_
              refine go_iload2 C (pc := 85) dX8_name_85 ?_
              refine go_bipush C (pc := 86) (v := 97) (by decide) dX8_name_86 ?_
              refine go_isub C (pc := 88) dX8_name_88 ?_
              have hcc : nmC (μ 29) w i wr = μ 29 i := if_pos ⟨Nat.lt_of_not_le (fun z => h8 (nI_le z (by omega))), bpos h15⟩
              have hnb : inR (μ 29 i) 97 112 = nameB (μ 29 i) := rfl
              have hb : nmB (μ 29) w i wr x = true := by rw [nmB, hcc, decide_eq_true h53, Bool.or_true, Bool.or_true]
              exact go_iret C hr dX8_name_89 ⟨by rw [hcc], _, mset_mset μ 25 _ _, by rw [nmI, if_pos hb]; exact (Int32.add_zero _).trans e11, by rw [hb]; rfl, fun f hf hf2 => (pk_un hf).trans (pk_un hf2)⟩

