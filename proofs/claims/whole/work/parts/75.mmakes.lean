/-! ===== ThornCoresModel: a change is read ===== -/
/-- where the reading of a change that begins at i ends, and whether something was wrong there -/
def mkP (c : Nat → Int32) (w i : Nat) : Nat × Bool :=
  if i < w ∧ c i = 43 then (i + 1, false)
  else if i < w ∧ c i = 33 then (if i + 1 < w ∧ nameB (c (i + 1)) = true then (i + 2, false) else (i + 1, true))
  else if i < w ∧ nameB (c i) = true then
    (if i + 1 < w ∧ (c (i + 1) = 45 ∨ c (i + 1) = 47) then (if i + 2 < w ∧ nameB (c (i + 2)) = true ∧ c (i + 2) ≠ c i then (i + 3, false) else (i + 2, true)) else (i + 1, true))
  else (i, true)
section MK
variable {c : Nat → Int32} {w i : Nat} {x : Int32} {wr : Bool}
theorem nx_t (h : nxB c w i wr x = true) : nxI c w i wr x = i + 1 := if_pos h
theorem nx_f (h : nxB c w i wr x = false) : nxI c w i wr x = i := if_neg (by rw [h]; decide)
theorem nx_no (h : nxB c w i false x = false) : ¬ (i < w ∧ c i = x) := fun q => by
  rw [nxB, decide_eq_true q.1, decide_eq_true q.2] at h; cases h
theorem nm_t (h : nmB c w i wr x = true) : nmI c w i wr x = i := if_pos h
theorem nm_f (h : nmB c w i false x = false) : nmI c w i false x = i + 1 ∧ i < w ∧ nameB (c i) = true ∧ c i ≠ x ∧ nmC c w i false = c i := by
  have h0 := h
  simp only [nmB, Bool.false_or, Bool.or_eq_false_iff, Bool.not_eq_false', decide_eq_false_iff_not] at h0
  have hi : i < w := Nat.lt_of_not_le (fun q => by
    have e : nmC c w i false = 0 := if_neg (fun z => by omega)
    rw [e, name_0] at h0; cases h0.1)
  have e : nmC c w i false = c i := if_pos ⟨hi, rfl⟩
  rw [e] at h0
  exact ⟨if_neg (by rw [h]; decide), hi, h0.1, h0.2, e⟩
theorem nm_no (h : nmB c w i false x = true) : ¬ (i < w ∧ nameB (c i) = true ∧ c i ≠ x) := fun q => by
  have e : nmC c w i false = c i := if_pos ⟨q.1, rfl⟩
  rw [nmB, e, q.2.1, decide_eq_false q.2.2] at h; cases h
theorem nm_wr : nmB c w i true x = true := rfl
theorem nx_wr : nxB c w i true x = false := rfl
theorem name_n0 (h : nameB x = true) : x ≠ 0 := fun e => by rw [e, name_0] at h; cases h
theorem m97 (x : Int32) : x - 97 + 97 = x := Int32.sub_add_cancel x 97
theorem mk_plus (h : nxB c w i false 43 = true) : mkP c w i = (nxI c w i false 43, false) := by
  have q := nx_lt h
  rw [mkP, if_pos ⟨q.1, q.2.1⟩, nx_t h]
theorem mk_bang (h1 : nxB c w i false 43 = false) (h : nxB c w (nxI c w i false 43) false 33 = true) : mkP c w i = (nmI c w (nxI c w (nxI c w i false 43) false 33) false 0, nmB c w (nxI c w (nxI c w i false 43) false 33) false 0) := by
  rw [nx_t h, nx_f h1]
  rw [nx_f h1] at h
  have q := nx_lt h
  rw [mkP, if_neg (nx_no h1), if_pos ⟨q.1, q.2.1⟩]
  cases w0 : nmB c w (i + 1) false 0
  · obtain ⟨e1, e2, e3, -⟩ := nm_f w0
    rw [e1, if_pos ⟨e2, e3⟩]
  · rw [nm_t w0, if_neg (fun z => nm_no w0 ⟨z.1, z.2, name_n0 z.2⟩)]
theorem mk_1 (h1 : nxB c w i false 43 = false) (h2 : nxB c w (nxI c w i false 43) false 33 = false) (h : nmB c w (nxI c w (nxI c w i false 43) false 33) false 0 = true) (b : Int32) : mkP c w i = (nmI c w (nxI c w (nmI c w (nxI c w (nxI c w i false 43) false 33) false 0) (nmB c w (nxI c w (nxI c w i false 43) false 33) false 0) 45) true b, true) := by
  rw [h, nx_f nx_wr, nm_t nm_wr]
  rw [nm_t h]
  rw [nx_f h2, nx_f h1]
  rw [nx_f h2, nx_f h1] at h
  rw [nx_f h1] at h2
  rw [mkP, if_neg (nx_no h1), if_neg (nx_no h2), if_neg (fun z => nm_no h ⟨z.1, z.2, name_n0 z.2⟩)]
theorem mk_2 (h1 : nxB c w i false 43 = false) (h2 : nxB c w (nxI c w i false 43) false 33 = false) (h : nmB c w (nxI c w (nxI c w i false 43) false 33) false 0 = false) (ha : nxB c w (nmI c w (nxI c w (nxI c w i false 43) false 33) false 0) (nmB c w (nxI c w (nxI c w i false 43) false 33) false 0) 45 = true) :
    mkP c w i = (nmI c w (nxI c w (nmI c w (nxI c w (nxI c w i false 43) false 33) false 0) (nmB c w (nxI c w (nxI c w i false 43) false 33) false 0) 45) false (nmC c w (nxI c w (nxI c w i false 43) false 33) false - 97 + 97), nmB c w (nxI c w (nmI c w (nxI c w (nxI c w i false 43) false 33) false 0) (nmB c w (nxI c w (nxI c w i false 43) false 33) false 0) 45) false (nmC c w (nxI c w (nxI c w i false 43) false 33) false - 97 + 97)) := by
  rw [nx_t ha, m97]
  rw [nx_f h2, nx_f h1] at h ha ⊢
  rw [nx_f h1] at h2
  obtain ⟨e1, e2, e3, -, e5⟩ := nm_f h
  rw [e1, e5]
  rw [h, e1] at ha
  have q := nx_lt ha
  rw [mkP, if_neg (nx_no h1), if_neg (nx_no h2), if_pos ⟨e2, e3⟩, if_pos ⟨q.1, Or.inl q.2.1⟩]
  cases w0 : nmB c w (i + 1 + 1) false (c i)
  · obtain ⟨d1, d2, d3, d4, -⟩ := nm_f w0
    rw [d1, if_pos ⟨d2, d3, d4⟩]
  · rw [nm_t w0, if_neg (nm_no w0)]
theorem mk_3 (h1 : nxB c w i false 43 = false) (h2 : nxB c w (nxI c w i false 43) false 33 = false) (h : nmB c w (nxI c w (nxI c w i false 43) false 33) false 0 = false) (ha : nxB c w (nmI c w (nxI c w (nxI c w i false 43) false 33) false 0) (nmB c w (nxI c w (nxI c w i false 43) false 33) false 0) 45 = false) (hb : nxB c w (nxI c w (nmI c w (nxI c w (nxI c w i false 43) false 33) false 0) (nmB c w (nxI c w (nxI c w i false 43) false 33) false 0) 45) (nmB c w (nxI c w (nxI c w i false 43) false 33) false 0) 47 = true) :
    mkP c w i = (nmI c w (nxI c w (nxI c w (nmI c w (nxI c w (nxI c w i false 43) false 33) false 0) (nmB c w (nxI c w (nxI c w i false 43) false 33) false 0) 45) (nmB c w (nxI c w (nxI c w i false 43) false 33) false 0) 47) false (nmC c w (nxI c w (nxI c w i false 43) false 33) false - 97 + 97), nmB c w (nxI c w (nxI c w (nmI c w (nxI c w (nxI c w i false 43) false 33) false 0) (nmB c w (nxI c w (nxI c w i false 43) false 33) false 0) 45) (nmB c w (nxI c w (nxI c w i false 43) false 33) false 0) 47) false (nmC c w (nxI c w (nxI c w i false 43) false 33) false - 97 + 97)) := by
  rw [nx_t hb, m97, nx_f ha]
  rw [nx_f ha] at hb
  rw [nx_f h2, nx_f h1] at h ha hb ⊢
  rw [nx_f h1] at h2
  obtain ⟨e1, e2, e3, -, e5⟩ := nm_f h
  rw [e1, e5]
  rw [h, e1] at hb
  have q := nx_lt hb
  rw [mkP, if_neg (nx_no h1), if_neg (nx_no h2), if_pos ⟨e2, e3⟩, if_pos ⟨q.1, Or.inr q.2.1⟩]
  cases w0 : nmB c w (i + 1 + 1) false (c i)
  · obtain ⟨d1, d2, d3, d4, -⟩ := nm_f w0
    rw [d1, if_pos ⟨d2, d3, d4⟩]
  · rw [nm_t w0, if_neg (nm_no w0)]
theorem mk_4 (h1 : nxB c w i false 43 = false) (h2 : nxB c w (nxI c w i false 43) false 33 = false) (h : nmB c w (nxI c w (nxI c w i false 43) false 33) false 0 = false) (ha : nxB c w (nmI c w (nxI c w (nxI c w i false 43) false 33) false 0) (nmB c w (nxI c w (nxI c w i false 43) false 33) false 0) 45 = false) (hb : nxB c w (nxI c w (nmI c w (nxI c w (nxI c w i false 43) false 33) false 0) (nmB c w (nxI c w (nxI c w i false 43) false 33) false 0) 45) (nmB c w (nxI c w (nxI c w i false 43) false 33) false 0) 47 = false) (b : Int32) :
    mkP c w i = (nmI c w (nxI c w (nxI c w (nmI c w (nxI c w (nxI c w i false 43) false 33) false 0) (nmB c w (nxI c w (nxI c w i false 43) false 33) false 0) 45) (nmB c w (nxI c w (nxI c w i false 43) false 33) false 0) 47) true b, true) := by
  rw [nm_t nm_wr, nx_f hb, nx_f ha]
  rw [nx_f ha] at hb
  rw [nx_f h2, nx_f h1] at h ha hb ⊢
  rw [nx_f h1] at h2
  obtain ⟨e1, e2, e3, -, -⟩ := nm_f h
  rw [e1]
  rw [h, e1] at hb ha
  rw [mkP, if_neg (nx_no h1), if_neg (nx_no h2), if_pos ⟨e2, e3⟩, if_neg (fun z => z.2.elim (fun y => nx_no ha ⟨z.1, y⟩) (fun y => nx_no hb ⟨z.1, y⟩))]
end MK
theorem upd_id {f : Nat → Int32} {k : Nat} {x : Int32} (h : f k = x) : upd f k x = f := by
  funext j
  by_cases e : j = k
  · subst e; rw [pk_us, h]
  · rw [pk_un e]
def endP (μ : Mem) (e : Nat × Bool) (μ' : Mem) : Prop := ∃ u, μ' = mset μ 25 u ∧ u 11 = nI e.1 ∧ u 12 = b2i e.2 ∧ ∀ f, f ≠ 11 → f ≠ 12 → u f = μ 25 f
theorem yok_X8_makes : yOK yX8_makes 1 := by unfold yOK; decide +kernel
theorem hi_X8_makes_RX8 : ∀ w ∈ wsX80, w ∈ wsX8_makes := by decide +kernel
theorem lk_X8_makes_106 : Cond.fieldLink RX8 106 "ThornCoresModel" "isWrong" "Z" ∈ wsX8_makes := by decide +kernel
theorem lk_X8_makes_7 : Cond.fieldLink RX8 7 "ThornCoresModel" "s" "[I" ∈ wsX8_makes := by decide +kernel
set_option maxRecDepth 20000 in
set_option maxHeartbeats 4000000 in
theorem c_X8_makes0 {l : Launch} {D : va_G} {ad : Nat → Nat} {cI cL : ClassId} (hfl : l.flags = flags0) (hok : adOK ad) (μ : Mem) (w i : Nat) {n : Nat} {pr : Int32} {th : Nat → Int32} (hM : Mo μ n pr th) (hT : TV n pr th) (hP : Pa μ w i false) : CtI l D ad cI cL yX8_makes wsX8_makes (RM 2 44) [.ref (ad 25), .int 0] μ (fun (r : Int32) (μ' : Mem) => r = 0 ∧ endP μ (mkP (μ 29) w i) μ') := by
  refine ct_i (cc := cX8_makes) (maxL := 7) (own := RX8) .boolean hfl hok (by decide) rfl rfl rfl (Nat.le_of_ble_eq_true rfl) (fun p e s m below meth c C hr => ?_)
  refine go_lv (lv' := [some (.ref (ad 25)), some (.int 0), none, none, none, none, none]) rfl ?_
  obtain ⟨hs0, hs1, hth⟩ := id hM
  have hn := hT.1
  refine go_aload0 C (pc := 0) dX8_makes_0 ?_
  refine go_bipush C (pc := 1) (v := 43) (by decide) dX8_makes_1 ?_
  refine go_ciV1 C (pc := 3) obj_25 (c_X8_isNext C.fl C.ok μ _ w i false hP) gX8_makes_X8_isNext rfl rfl yok_X8_isNext ⟨rfl, rfl⟩ ⟨Nat.le_of_ble_eq_true rfl, Nat.le_of_ble_eq_true rfl⟩ (Nat.le_of_ble_eq_true rfl) ⟨Nat.zero_le _, Nat.zero_le _⟩ dX8_makes_3 (fun r1 μ1 hc1 => ?_)
  obtain ⟨rfl, u1, rfl, e1, f1⟩ := hc1
  have hP1 : Pa (mset μ 25 u1) w (nxI (μ 29) w i false 43) false := Pa.nx (c := μ 29) hP e1 f1
  have g1 : ∀ f, f ≠ 11 → f ≠ 12 → u1 f = μ 25 f := fun f a _ => f1 f a
  refine go_if_eq C (pc := 6) (tgt := 50) dX8_makes_6 (by decide) (fun h6 => ?_) (fun h6 => ?_)
  · refine go_aload0 C (pc := 50) dX8_makes_50 ?_
    refine go_bipush C (pc := 51) (v := 33) (by decide) dX8_makes_51 ?_
    refine go_ciV1 C (pc := 53) obj_25 (c_X8_isNext C.fl C.ok (mset μ 25 u1) _ w (nxI (μ 29) w i false 43) false hP1) gX8_makes_X8_isNext rfl rfl yok_X8_isNext ⟨rfl, rfl⟩ ⟨Nat.le_of_ble_eq_true rfl, Nat.le_of_ble_eq_true rfl⟩ (Nat.le_of_ble_eq_true rfl) ⟨Nat.zero_le _, Nat.zero_le _⟩ dX8_makes_53 (fun r3 μ3 hc3 => ?_)
    obtain ⟨rfl, u2, hm3, e2, f2⟩ := hc3
    rw [mset_mset] at hm3
    subst hm3
    have hP2 : Pa (mset μ 25 u2) w (nxI (μ 29) w (nxI (μ 29) w i false 43) false 33) false := by have := Pa.nx (c := μ 29) hP1 e2 f2; rw [mset_mset] at this; exact this
    have g2 : ∀ f, f ≠ 11 → f ≠ 12 → u2 f = μ 25 f := fun f a b => (f2 f a).trans (g1 f a b)
    refine go_if_eq C (pc := 56) (tgt := 105) dX8_makes_56 (by decide) (fun h56 => ?_) (fun h56 => ?_)
    · refine go_aload0 C (pc := 105) dX8_makes_105 ?_
      refine go_iconst C (pc := 106) (v := 0) (by decide) dX8_makes_106 ?_
      refine go_ciV1 C (pc := 107) obj_25 (c_X8_name C.fl C.ok (mset μ 25 u2) _ w (nxI (μ 29) w (nxI (μ 29) w i false 43) false 33) false hP2) gX8_makes_X8_name rfl rfl yok_X8_name ⟨rfl, rfl⟩ ⟨Nat.le_of_ble_eq_true rfl, Nat.le_of_ble_eq_true rfl⟩ (Nat.le_of_ble_eq_true rfl) ⟨Nat.zero_le _, Nat.zero_le _⟩ dX8_makes_107 (fun r5 μ5 hc5 => ?_)
      obtain ⟨rfl, u3, hm5, e3, k3, f3⟩ := hc5
      rw [mset_mset] at hm5
      subst hm5
      have hP3 : Pa (mset μ 25 u3) w (nmI (μ 29) w (nxI (μ 29) w (nxI (μ 29) w i false 43) false 33) false 0) (nmB (μ 29) w (nxI (μ 29) w (nxI (μ 29) w i false 43) false 33) false 0) := by have := Pa.nm (c := μ 29) hP2 e3 k3 f3; rw [mset_mset] at this; exact this
      have g3 : ∀ f, f ≠ 11 → f ≠ 12 → u3 f = μ 25 f := fun f a b => (f3 f a b).trans (g2 f a b)
      refine go_istore2 C (pc := 110) dX8_makes_110 ?_
      refine go_aload0 C (pc := 111) dX8_makes_111 ?_
      refine go_bipush C (pc := 112) (v := 45) (by decide) dX8_makes_112 ?_
      refine go_ciV1 C (pc := 114) obj_25 (c_X8_isNext C.fl C.ok (mset μ 25 u3) _ w (nmI (μ 29) w (nxI (μ 29) w (nxI (μ 29) w i false 43) false 33) false 0) (nmB (μ 29) w (nxI (μ 29) w (nxI (μ 29) w i false 43) false 33) false 0) hP3) gX8_makes_X8_isNext rfl rfl yok_X8_isNext ⟨rfl, rfl⟩ ⟨Nat.le_of_ble_eq_true rfl, Nat.le_of_ble_eq_true rfl⟩ (Nat.le_of_ble_eq_true rfl) ⟨Nat.zero_le _, Nat.zero_le _⟩ dX8_makes_114 (fun r6 μ6 hc6 => ?_)
      obtain ⟨rfl, u4, hm6, e4, f4⟩ := hc6
      rw [mset_mset] at hm6
      subst hm6
      have hP4 : Pa (mset μ 25 u4) w (nxI (μ 29) w (nmI (μ 29) w (nxI (μ 29) w (nxI (μ 29) w i false 43) false 33) false 0) (nmB (μ 29) w (nxI (μ 29) w (nxI (μ 29) w i false 43) false 33) false 0) 45) (nmB (μ 29) w (nxI (μ 29) w (nxI (μ 29) w i false 43) false 33) false 0) := by have := Pa.nx (c := μ 29) hP3 e4 f4; rw [mset_mset] at this; exact this
      have g4 : ∀ f, f ≠ 11 → f ≠ 12 → u4 f = μ 25 f := fun f a b => (f4 f a).trans (g3 f a b)
      refine go_istore3 C (pc := 117) dX8_makes_117 ?_
      refine go_aload0 C (pc := 118) dX8_makes_118 ?_
      refine go_aload0 C (pc := 119) dX8_makes_119 ?_
      refine go_get C (pc := 120) 25 (by decide) rfl rfl 12 (by decide) rfl rfl hi_X8_makes_RX8 lk_X8_makes_106 dX8_makes_120 ?_
      refine go_top (y := b2i (nmB (μ 29) w (nxI (μ 29) w (nxI (μ 29) w i false 43) false 33) false 0)) hP4.2.2.1 ?_
      refine go_if_ne C (pc := 123) (tgt := 139) dX8_makes_123 (by decide) (fun h123 => ?_) (fun h123 => ?_)
      · refine go_iconst C (pc := 139) (v := 1) (by decide) dX8_makes_139 ?_
        refine go_goto C (pc := 140) (tgt := 144) dX8_makes_140 (by decide) ?_
        refine go_put C (pc := 144) 25 (by decide) rfl rfl 12 (by decide) rfl hi_X8_makes_RX8 lk_X8_makes_106 tyX8_ok nmX8 rfl (nar_z (by decide)) rfl (Nat.le_of_ble_eq_true rfl) rfl dX8_makes_144 ?_
        refine go_mem (mset_mset μ 25 u4 (upd u4 12 1)) ?_
        have hP6 : Pa (mset μ 25 (upd u4 12 1)) w (nxI (μ 29) w (nmI (μ 29) w (nxI (μ 29) w (nxI (μ 29) w i false 43) false 33) false 0) (nmB (μ 29) w (nxI (μ 29) w (nxI (μ 29) w i false 43) false 33) false 0) 45) true := ⟨hP4.1, hP4.2.1, rfl, hP4.2.2.2.1, hP4.2.2.2.2⟩
        have g6 : ∀ f, f ≠ 11 → f ≠ 12 → upd u4 12 1 f = μ 25 f := fun f a b => (pk_un b).trans (g4 f a b)
        refine go_aload0 C (pc := 147) dX8_makes_147 ?_
        refine go_iload2 C (pc := 148) dX8_makes_148 ?_
        refine go_bipush C (pc := 149) (v := 97) (by decide) dX8_makes_149 ?_
        refine go_iadd C (pc := 151) dX8_makes_151 ?_
        refine go_ciV1 C (pc := 152) obj_25 (c_X8_name C.fl C.ok _ _ _ _ _ hP6) gX8_makes_X8_name rfl rfl yok_X8_name ⟨rfl, rfl⟩ ⟨Nat.le_of_ble_eq_true rfl, Nat.le_of_ble_eq_true rfl⟩ (Nat.le_of_ble_eq_true rfl) ⟨Nat.zero_le _, Nat.zero_le _⟩ dX8_makes_152 (fun r8 μ8 hc8 => ?_)
        obtain ⟨rfl, u7, hm8, e7, k7, f7⟩ := hc8
        rw [mset_mset] at hm8
        subst hm8
        refine go_istore4 C (pc := 155) dX8_makes_155 ?_
        refine go_iload1 C (pc := 157) dX8_makes_157 ?_
        refine go_if_eq C (pc := 158) (tgt := 193) dX8_makes_158 (by decide) (fun h158 => ?_) (fun h158 => ?_)
        · refine go_iconst C (pc := 193) (v := 0) (by decide) dX8_makes_193 ?_
          refine go_istore5 C (pc := 194) dX8_makes_194 ?_
          refine go_iload5 C (pc := 196) dX8_makes_196 ?_
          refine go_if_eq C (pc := 198) (tgt := 224) dX8_makes_198 (by decide) (fun h198 => ?_) (fun h198 => ?_)
          · refine go_iload5 C (pc := 224) dX8_makes_224 ?_
            have hk := mk_1 (bpos h6) (bpos h56) (bneg h123) (nmC (μ 29) w (nxI (μ 29) w (nxI (μ 29) w i false 43) false 33) false - 97 + 97)
            exact go_zret C hr dX8_makes_226 (by decide) ⟨rfl, u7, rfl, by rw [hk]; exact e7, by rw [hk]; exact k7, fun f a b => (f7 f a b).trans (g6 f a b)⟩
          · exact absurd rfl (show ¬ (0 : Int32) = 0 from h198)
        · exact absurd rfl (show ¬ (0 : Int32) = 0 from h158)
      · refine go_iload3 C (pc := 126) dX8_makes_126 ?_
        refine go_if_ne C (pc := 127) (tgt := 143) dX8_makes_127 (by decide) (fun h127 => ?_) (fun h127 => ?_)
        · refine go_iconst C (pc := 143) (v := 0) (by decide) dX8_makes_143 ?_
          refine go_put C (pc := 144) 25 (by decide) rfl rfl 12 (by decide) rfl hi_X8_makes_RX8 lk_X8_makes_106 tyX8_ok nmX8 rfl (nar_z (by decide)) rfl (Nat.le_of_ble_eq_true rfl) rfl dX8_makes_144 ?_
          refine go_mem (mset_mset μ 25 u4 (upd u4 12 0)) ?_
          have hP6 : Pa (mset μ 25 (upd u4 12 0)) w (nxI (μ 29) w (nmI (μ 29) w (nxI (μ 29) w (nxI (μ 29) w i false 43) false 33) false 0) (nmB (μ 29) w (nxI (μ 29) w (nxI (μ 29) w i false 43) false 33) false 0) 45) false := ⟨hP4.1, hP4.2.1, rfl, hP4.2.2.2.1, hP4.2.2.2.2⟩
          have g6 : ∀ f, f ≠ 11 → f ≠ 12 → upd u4 12 0 f = μ 25 f := fun f a b => (pk_un b).trans (g4 f a b)
          refine go_aload0 C (pc := 147) dX8_makes_147 ?_
          refine go_iload2 C (pc := 148) dX8_makes_148 ?_
          refine go_bipush C (pc := 149) (v := 97) (by decide) dX8_makes_149 ?_
          refine go_iadd C (pc := 151) dX8_makes_151 ?_
          refine go_ciV1 C (pc := 152) obj_25 (c_X8_name C.fl C.ok _ _ _ _ _ hP6) gX8_makes_X8_name rfl rfl yok_X8_name ⟨rfl, rfl⟩ ⟨Nat.le_of_ble_eq_true rfl, Nat.le_of_ble_eq_true rfl⟩ (Nat.le_of_ble_eq_true rfl) ⟨Nat.zero_le _, Nat.zero_le _⟩ dX8_makes_152 (fun r12 μ12 hc12 => ?_)
          obtain ⟨rfl, u7, hm12, e7, k7, f7⟩ := hc12
          rw [mset_mset] at hm12
          subst hm12
          refine go_istore4 C (pc := 155) dX8_makes_155 ?_
          refine go_iload1 C (pc := 157) dX8_makes_157 ?_
          refine go_if_eq C (pc := 158) (tgt := 193) dX8_makes_158 (by decide) (fun h158 => ?_) (fun h158 => ?_)
          · refine go_iconst C (pc := 193) (v := 0) (by decide) dX8_makes_193 ?_
            refine go_istore5 C (pc := 194) dX8_makes_194 ?_
            refine go_iload5 C (pc := 196) dX8_makes_196 ?_
            refine go_if_eq C (pc := 198) (tgt := 224) dX8_makes_198 (by decide) (fun h198 => ?_) (fun h198 => ?_)
            · refine go_iload5 C (pc := 224) dX8_makes_224 ?_
              have hk := mk_2 (bpos h6) (bpos h56) (bpos h123) (bneg h127)
              exact go_zret C hr dX8_makes_226 (by decide) ⟨rfl, u7, rfl, by rw [hk]; exact e7, by rw [hk]; exact k7, fun f a b => (f7 f a b).trans (g6 f a b)⟩
            · exact absurd rfl (show ¬ (0 : Int32) = 0 from h198)
          · exact absurd rfl (show ¬ (0 : Int32) = 0 from h158)
        · refine go_aload0 C (pc := 130) dX8_makes_130 ?_
          refine go_bipush C (pc := 131) (v := 47) (by decide) dX8_makes_131 ?_
          refine go_ciV1 C (pc := 133) obj_25 (c_X8_isNext C.fl C.ok (mset μ 25 u4) _ w (nxI (μ 29) w (nmI (μ 29) w (nxI (μ 29) w (nxI (μ 29) w i false 43) false 33) false 0) (nmB (μ 29) w (nxI (μ 29) w (nxI (μ 29) w i false 43) false 33) false 0) 45) (nmB (μ 29) w (nxI (μ 29) w (nxI (μ 29) w i false 43) false 33) false 0) hP4) gX8_makes_X8_isNext rfl rfl yok_X8_isNext ⟨rfl, rfl⟩ ⟨Nat.le_of_ble_eq_true rfl, Nat.le_of_ble_eq_true rfl⟩ (Nat.le_of_ble_eq_true rfl) ⟨Nat.zero_le _, Nat.zero_le _⟩ dX8_makes_133 (fun r15 μ15 hc15 => ?_)
          obtain ⟨rfl, u5, hm15, e5, f5⟩ := hc15
          rw [mset_mset] at hm15
          subst hm15
          have hP5 : Pa (mset μ 25 u5) w (nxI (μ 29) w (nxI (μ 29) w (nmI (μ 29) w (nxI (μ 29) w (nxI (μ 29) w i false 43) false 33) false 0) (nmB (μ 29) w (nxI (μ 29) w (nxI (μ 29) w i false 43) false 33) false 0) 45) (nmB (μ 29) w (nxI (μ 29) w (nxI (μ 29) w i false 43) false 33) false 0) 47) (nmB (μ 29) w (nxI (μ 29) w (nxI (μ 29) w i false 43) false 33) false 0) := by have := Pa.nx (c := μ 29) hP4 e5 f5; rw [mset_mset] at this; exact this
          have g5 : ∀ f, f ≠ 11 → f ≠ 12 → u5 f = μ 25 f := fun f a b => (f5 f a).trans (g4 f a b)
          refine go_if_ne C (pc := 136) (tgt := 143) dX8_makes_136 (by decide) (fun h136 => ?_) (fun h136 => ?_)
          · refine go_iconst C (pc := 143) (v := 0) (by decide) dX8_makes_143 ?_
            refine go_put C (pc := 144) 25 (by decide) rfl rfl 12 (by decide) rfl hi_X8_makes_RX8 lk_X8_makes_106 tyX8_ok nmX8 rfl (nar_z (by decide)) rfl (Nat.le_of_ble_eq_true rfl) rfl dX8_makes_144 ?_
            refine go_mem (mset_mset μ 25 u5 (upd u5 12 0)) ?_
            have hP6 : Pa (mset μ 25 (upd u5 12 0)) w (nxI (μ 29) w (nxI (μ 29) w (nmI (μ 29) w (nxI (μ 29) w (nxI (μ 29) w i false 43) false 33) false 0) (nmB (μ 29) w (nxI (μ 29) w (nxI (μ 29) w i false 43) false 33) false 0) 45) (nmB (μ 29) w (nxI (μ 29) w (nxI (μ 29) w i false 43) false 33) false 0) 47) false := ⟨hP5.1, hP5.2.1, rfl, hP5.2.2.2.1, hP5.2.2.2.2⟩
            have g6 : ∀ f, f ≠ 11 → f ≠ 12 → upd u5 12 0 f = μ 25 f := fun f a b => (pk_un b).trans (g5 f a b)
            refine go_aload0 C (pc := 147) dX8_makes_147 ?_
            refine go_iload2 C (pc := 148) dX8_makes_148 ?_
            refine go_bipush C (pc := 149) (v := 97) (by decide) dX8_makes_149 ?_
            refine go_iadd C (pc := 151) dX8_makes_151 ?_
            refine go_ciV1 C (pc := 152) obj_25 (c_X8_name C.fl C.ok _ _ _ _ _ hP6) gX8_makes_X8_name rfl rfl yok_X8_name ⟨rfl, rfl⟩ ⟨Nat.le_of_ble_eq_true rfl, Nat.le_of_ble_eq_true rfl⟩ (Nat.le_of_ble_eq_true rfl) ⟨Nat.zero_le _, Nat.zero_le _⟩ dX8_makes_152 (fun r17 μ17 hc17 => ?_)
            obtain ⟨rfl, u7, hm17, e7, k7, f7⟩ := hc17
            rw [mset_mset] at hm17
            subst hm17
            refine go_istore4 C (pc := 155) dX8_makes_155 ?_
            refine go_iload1 C (pc := 157) dX8_makes_157 ?_
            refine go_if_eq C (pc := 158) (tgt := 193) dX8_makes_158 (by decide) (fun h158 => ?_) (fun h158 => ?_)
            · refine go_iconst C (pc := 193) (v := 0) (by decide) dX8_makes_193 ?_
              refine go_istore5 C (pc := 194) dX8_makes_194 ?_
              refine go_iload5 C (pc := 196) dX8_makes_196 ?_
              refine go_if_eq C (pc := 198) (tgt := 224) dX8_makes_198 (by decide) (fun h198 => ?_) (fun h198 => ?_)
              · refine go_iload5 C (pc := 224) dX8_makes_224 ?_
                have hk := mk_3 (bpos h6) (bpos h56) (bpos h123) (bpos h127) (bneg h136)
                exact go_zret C hr dX8_makes_226 (by decide) ⟨rfl, u7, rfl, by rw [hk]; exact e7, by rw [hk]; exact k7, fun f a b => (f7 f a b).trans (g6 f a b)⟩
              · exact absurd rfl (show ¬ (0 : Int32) = 0 from h198)
            · exact absurd rfl (show ¬ (0 : Int32) = 0 from h158)
          · refine go_iconst C (pc := 139) (v := 1) (by decide) dX8_makes_139 ?_
            refine go_goto C (pc := 140) (tgt := 144) dX8_makes_140 (by decide) ?_
            refine go_put C (pc := 144) 25 (by decide) rfl rfl 12 (by decide) rfl hi_X8_makes_RX8 lk_X8_makes_106 tyX8_ok nmX8 rfl (nar_z (by decide)) rfl (Nat.le_of_ble_eq_true rfl) rfl dX8_makes_144 ?_
            refine go_mem (mset_mset μ 25 u5 (upd u5 12 1)) ?_
            have hP6 : Pa (mset μ 25 (upd u5 12 1)) w (nxI (μ 29) w (nxI (μ 29) w (nmI (μ 29) w (nxI (μ 29) w (nxI (μ 29) w i false 43) false 33) false 0) (nmB (μ 29) w (nxI (μ 29) w (nxI (μ 29) w i false 43) false 33) false 0) 45) (nmB (μ 29) w (nxI (μ 29) w (nxI (μ 29) w i false 43) false 33) false 0) 47) true := ⟨hP5.1, hP5.2.1, rfl, hP5.2.2.2.1, hP5.2.2.2.2⟩
            have g6 : ∀ f, f ≠ 11 → f ≠ 12 → upd u5 12 1 f = μ 25 f := fun f a b => (pk_un b).trans (g5 f a b)
            refine go_aload0 C (pc := 147) dX8_makes_147 ?_
            refine go_iload2 C (pc := 148) dX8_makes_148 ?_
            refine go_bipush C (pc := 149) (v := 97) (by decide) dX8_makes_149 ?_
            refine go_iadd C (pc := 151) dX8_makes_151 ?_
            refine go_ciV1 C (pc := 152) obj_25 (c_X8_name C.fl C.ok _ _ _ _ _ hP6) gX8_makes_X8_name rfl rfl yok_X8_name ⟨rfl, rfl⟩ ⟨Nat.le_of_ble_eq_true rfl, Nat.le_of_ble_eq_true rfl⟩ (Nat.le_of_ble_eq_true rfl) ⟨Nat.zero_le _, Nat.zero_le _⟩ dX8_makes_152 (fun r20 μ20 hc20 => ?_)
            obtain ⟨rfl, u7, hm20, e7, k7, f7⟩ := hc20
            rw [mset_mset] at hm20
            subst hm20
            refine go_istore4 C (pc := 155) dX8_makes_155 ?_
            refine go_iload1 C (pc := 157) dX8_makes_157 ?_
            refine go_if_eq C (pc := 158) (tgt := 193) dX8_makes_158 (by decide) (fun h158 => ?_) (fun h158 => ?_)
            · refine go_iconst C (pc := 193) (v := 0) (by decide) dX8_makes_193 ?_
              refine go_istore5 C (pc := 194) dX8_makes_194 ?_
              refine go_iload5 C (pc := 196) dX8_makes_196 ?_
              refine go_if_eq C (pc := 198) (tgt := 224) dX8_makes_198 (by decide) (fun h198 => ?_) (fun h198 => ?_)
              · refine go_iload5 C (pc := 224) dX8_makes_224 ?_
                have hk := mk_4 (bpos h6) (bpos h56) (bpos h123) (bpos h127) (bpos h136) (nmC (μ 29) w (nxI (μ 29) w (nxI (μ 29) w i false 43) false 33) false - 97 + 97)
                exact go_zret C hr dX8_makes_226 (by decide) ⟨rfl, u7, rfl, by rw [hk]; exact e7, by rw [hk]; exact k7, fun f a b => (f7 f a b).trans (g6 f a b)⟩
              · exact absurd rfl (show ¬ (0 : Int32) = 0 from h198)
            · exact absurd rfl (show ¬ (0 : Int32) = 0 from h158)
    · refine go_aload0 C (pc := 59) dX8_makes_59 ?_
      refine go_iconst C (pc := 60) (v := 0) (by decide) dX8_makes_60 ?_
      refine go_ciV1 C (pc := 61) obj_25 (c_X8_name C.fl C.ok (mset μ 25 u2) _ w (nxI (μ 29) w (nxI (μ 29) w i false 43) false 33) false hP2) gX8_makes_X8_name rfl rfl yok_X8_name ⟨rfl, rfl⟩ ⟨Nat.le_of_ble_eq_true rfl, Nat.le_of_ble_eq_true rfl⟩ (Nat.le_of_ble_eq_true rfl) ⟨Nat.zero_le _, Nat.zero_le _⟩ dX8_makes_61 (fun r23 μ23 hc23 => ?_)
      obtain ⟨rfl, u3, hm23, e3, k3, f3⟩ := hc23
      rw [mset_mset] at hm23
      subst hm23
      refine go_istore2 C (pc := 64) dX8_makes_64 ?_
      refine go_iload1 C (pc := 65) dX8_makes_65 ?_
      refine go_if_eq C (pc := 66) (tgt := 81) dX8_makes_66 (by decide) (fun h66 => ?_) (fun h66 => ?_)
      · refine go_iconst C (pc := 81) (v := 0) (by decide) dX8_makes_81 ?_
        refine go_istore3 C (pc := 82) dX8_makes_82 ?_
        refine go_aload0 C (pc := 83) dX8_makes_83 ?_
        refine go_get C (pc := 84) 25 (by decide) rfl rfl 0 (by decide) rfl rfl hi_X8_makes_RX8 lk_X8_makes_7 dX8_makes_84 ?_
        refine go_iconst C (pc := 87) (v := 1) (by decide) dX8_makes_87 ?_
        refine go_dup2 C (pc := 88) rfl rfl dX8_makes_88 ?_
        refine go_top (y := nI 1) (by first | rfl | decide +kernel) ?_
        refine go_ialdN C (pc := 89) arr_26 (i := 1) (by omega) dX8_makes_89 ?_
        refine go_top (y := pr) hs1 ?_
        refine go_iload3 C (pc := 90) dX8_makes_90 ?_
        refine go_if_eq C (pc := 91) (tgt := 100) dX8_makes_91 (by decide) (fun h91 => ?_) (fun h91 => ?_)
        · refine go_iconst C (pc := 100) (v := 0) (by decide) dX8_makes_100 ?_
          refine go_ixor C (pc := 101) dX8_makes_101 ?_
          refine go_iastC C (pc := 102) arr_26 (i := 1) (by first | rfl | decide +kernel) (by omega) dX8_makes_102 ?_
          refine go_iload3 C (pc := 103) dX8_makes_103 ?_
          have hk := mk_bang (bpos h6) (bneg h56)
          exact go_zret C hr dX8_makes_104 (by decide) ⟨rfl, u3, (congrArg (mset (mset μ 25 u3) 26) (upd_id (hs1.trans (Int32.xor_zero).symm))).trans (mset_id (mset μ 25 u3) 26), by rw [hk]; exact e3, by rw [hk]; exact k3, fun f a b => (f3 f a b).trans (g2 f a b)⟩
        · exact absurd rfl (show ¬ (0 : Int32) = 0 from h91)
      · exact absurd rfl (show ¬ (0 : Int32) = 0 from h66)
  · refine go_iload1 C (pc := 9) dX8_makes_9 ?_
    refine go_if_eq C (pc := 10) (tgt := 28) dX8_makes_10 (by decide) (fun h10 => ?_) (fun h10 => ?_)
    · refine go_iconst C (pc := 28) (v := 0) (by decide) dX8_makes_28 ?_
      refine go_istore2 C (pc := 29) dX8_makes_29 ?_
      refine go_aload0 C (pc := 30) dX8_makes_30 ?_
      refine go_get C (pc := 31) 25 (by decide) rfl rfl 0 (by decide) rfl rfl hi_X8_makes_RX8 lk_X8_makes_7 dX8_makes_31 ?_
      refine go_iconst C (pc := 34) (v := 0) (by decide) dX8_makes_34 ?_
      refine go_dup2 C (pc := 35) rfl rfl dX8_makes_35 ?_
      refine go_top (y := nI 0) (by first | rfl | decide +kernel) ?_
      refine go_ialdN C (pc := 36) arr_26 (i := 0) (by omega) dX8_makes_36 ?_
      refine go_top (y := nI n) hs0 ?_
      
      refine go_iload2 C (pc := 37) dX8_makes_37 ?_
      refine go_if_eq C (pc := 38) (tgt := 45) dX8_makes_38 (by decide) (fun h38 => ?_) (fun h38 => ?_)
      · refine go_iconst C (pc := 45) (v := 0) (by decide) dX8_makes_45 ?_
        refine go_iadd C (pc := 46) dX8_makes_46 ?_
        refine go_top (y := nI (n + 0)) (by rw [show (0 : Int32) = nI 0 from by decide +kernel, nI_add]) ?_
        
        refine go_iastC C (pc := 47) arr_26 (i := 0) (by first | rfl | decide +kernel) (by omega) dX8_makes_47 ?_
        refine go_iload2 C (pc := 48) dX8_makes_48 ?_
        exact go_zret C hr dX8_makes_49 (by decide) ⟨rfl, u1, (congrArg (mset (mset μ 25 u1) 26) (upd_id hs0)).trans (mset_id (mset μ 25 u1) 26), by rw [mk_plus (bneg h6)]; exact e1, by rw [mk_plus (bneg h6)]; exact (f1 12 (by decide)).trans hP.2.2.1, g1⟩
      · exact absurd rfl (show ¬ (0 : Int32) = 0 from h38)
    · exact absurd rfl (show ¬ (0 : Int32) = 0 from h10)

