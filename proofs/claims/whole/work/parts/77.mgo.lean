/-! ===== ThornCoresModel: the whole text is read ===== -/
/-- e is the place of the first error -/
def fE (c : Nat → Int32) (w e : Nat) : Prop := e ≤ w ∧ (∀ x, x ≤ e → dfa c x ≠ 5) ∧ (e < w → dfa c (e + 1) = 5) ∧ (e = w → dfa c w ≠ 4)
theorem dfa_s0 {c : Nat → Int32} {i : Nat} (h : dfa c i = 0) : dfa c (i + 1) = aft0 (c i) := by rw [dfa, h]; rfl
theorem dfa_s1 {c : Nat → Int32} {i : Nat} (h : dfa c i = 1) : dfa c (i + 1) = if c i = 45 ∨ c i = 47 then 2 else 5 := by rw [dfa, h]; rfl
theorem dfa_s2 {c : Nat → Int32} {i : Nat} (h : dfa c i = 2) : dfa c (i + 1) = if nameB (c i) = true ∧ c i ≠ c (i - 2) then 4 else 5 := by rw [dfa, h]; rfl
theorem dfa_s3 {c : Nat → Int32} {i : Nat} (h : dfa c i = 3) : dfa c (i + 1) = if nameB (c i) = true then 4 else 5 := by rw [dfa, h]; rfl
theorem dfa_s4 {c : Nat → Int32} {i : Nat} (h : dfa c i = 4) : dfa c (i + 1) = if c i = 44 then 0 else 5 := by rw [dfa, h]; rfl
theorem le_cases {P : Nat → Prop} {i e : Nat} (h : ∀ x, x ≤ i → P x) (h2 : ∀ x, i < x → x ≤ e → P x) : ∀ x, x ≤ e → P x := fun x hx => by
  rcases Nat.lt_or_ge i x with q | q
  · exact h2 x q hx
  · exact h x q
/-- what the reading of one change says of the states -/
theorem mk_dfa {c : Nat → Int32} {w i : Nat} (hi : i ≤ w) (h0 : dfa c i = 0) (hno : ∀ x, x ≤ i → dfa c x ≠ 5) :
    ((mkP c w i).2 = false ∧ (mkP c w i).1 = i + clen c i ∧ i + clen c i ≤ w ∧ dfa c (i + clen c i) = 4 ∧ ∀ x, x ≤ i + clen c i → dfa c x ≠ 5) ∨ ((mkP c w i).2 = true ∧ fE c w (mkP c w i).1) := by
  have d1 := dfa_s0 h0
  unfold mkP clen
  by_cases a : i < w ∧ c i = 43
  · rw [if_pos a, if_pos a.2]
    have e1 : dfa c (i + 1) = 4 := by rw [d1, aft0, if_pos a.2]
    exact Or.inl ⟨rfl, rfl, a.1, e1, le_cases hno (fun x h1 h2 => by rw [show x = i + 1 by omega, e1]; decide)⟩
  · rw [if_neg a]
    by_cases b : i < w ∧ c i = 33
    · have e43 : ¬ c i = 43 := fun q => a ⟨b.1, q⟩
      rw [if_pos b, if_neg e43, if_pos b.2]
      have e1 : dfa c (i + 1) = 3 := by rw [d1, aft0, if_neg e43, if_pos b.2]
      have d2 := dfa_s3 e1
      by_cases g : i + 1 < w ∧ nameB (c (i + 1)) = true
      · rw [if_pos g]
        have e2 : dfa c (i + 2) = 4 := by rw [d2, if_pos g.2]
        exact Or.inl ⟨rfl, rfl, g.1, e2, le_cases hno (fun x h1 h2 => by
          rcases Nat.lt_or_ge x (i + 2) with q | q
          · rw [show x = i + 1 by omega, e1]; decide
          · rw [show x = i + 2 by omega, e2]; decide)⟩
      · rw [if_neg g]
        exact Or.inr ⟨rfl, b.1, le_cases hno (fun x h1 h2 => by rw [show x = i + 1 by omega, e1]; decide), fun q => by rw [d2, if_neg (fun y => g ⟨q, y⟩)], fun q => by rw [← q, e1]; decide⟩
    · rw [if_neg b]
      by_cases g : i < w ∧ nameB (c i) = true
      · have e43 : ¬ c i = 43 := fun q => a ⟨g.1, q⟩
        have e33 : ¬ c i = 33 := fun q => b ⟨g.1, q⟩
        rw [if_pos g, if_neg e43, if_neg e33]
        have e1 : dfa c (i + 1) = 1 := by rw [d1, aft0, if_neg e43, if_neg e33, if_pos g.2]
        have d2 := dfa_s1 e1
        by_cases k : i + 1 < w ∧ (c (i + 1) = 45 ∨ c (i + 1) = 47)
        · rw [if_pos k]
          have e2 : dfa c (i + 2) = 2 := by rw [d2, if_pos k.2]
          have d3 := dfa_s2 e2
          by_cases m : i + 2 < w ∧ nameB (c (i + 2)) = true ∧ c (i + 2) ≠ c i
          · rw [if_pos m]
            have e3 : dfa c (i + 3) = 4 := by rw [d3, if_pos (by rw [show i + 2 - 2 = i by omega]; exact m.2)]
            exact Or.inl ⟨rfl, rfl, m.1, e3, le_cases hno (fun x h1 h2 => by
              rcases Nat.lt_or_ge x (i + 2) with q | q
              · rw [show x = i + 1 by omega, e1]; decide
              · rcases Nat.lt_or_ge x (i + 3) with q2 | q2
                · rw [show x = i + 2 by omega, e2]; decide
                · rw [show x = i + 3 by omega, e3]; decide)⟩
          · rw [if_neg m]
            exact Or.inr ⟨rfl, k.1, le_cases hno (fun x h1 h2 => by
              rcases Nat.lt_or_ge x (i + 2) with q | q
              · rw [show x = i + 1 by omega, e1]; decide
              · rw [show x = i + 2 by omega, e2]; decide), fun q => by rw [d3, if_neg (fun y => m ⟨q, by rw [show i + 2 - 2 = i by omega] at y; exact y⟩)], fun q => by rw [← q, e2]; decide⟩
        · rw [if_neg k]
          exact Or.inr ⟨rfl, g.1, le_cases hno (fun x h1 h2 => by rw [show x = i + 1 by omega, e1]; decide), fun q => by rw [d2, if_neg (fun y => k ⟨q, y⟩)], fun q => by rw [← q, e1]; decide⟩
      · rw [if_neg g]
        exact Or.inr ⟨rfl, hi, hno, fun q => by rw [d1, aft0, if_neg (fun y => a ⟨q, y⟩), if_neg (fun y => b ⟨q, y⟩), if_neg (fun y => g ⟨q, y⟩)], fun q => by rw [← q, h0]; decide⟩
theorem fE_no {c : Nat → Int32} {w e : Nat} (h : fE c w e) : dfa c w ≠ 4 := by
  rcases Nat.lt_or_ge e w with q | q
  · rw [dfa_5 c (h.2.2.1 q) w q]; decide
  · exact h.2.2.2 (Nat.le_antisymm h.1 q)
def goQ (μ : Mem) (w : Nat) (μ' : Mem) : Prop := ∃ e wr, endP μ (e, wr) μ' ∧ (wr = false → dfa (μ 29) w = 4) ∧ (wr = true → fE (μ 29) w e)
theorem yok_X8_go : yOK yX8_go 1 := by unfold yOK; decide +kernel
theorem hi_X8_go_RX8 : ∀ w ∈ wsX80, w ∈ wsX8_go := by decide +kernel
theorem lk_X8_go_106 : Cond.fieldLink RX8 106 "ThornCoresModel" "isWrong" "Z" ∈ wsX8_go := by decide +kernel
theorem lk_X8_go_103 : Cond.fieldLink RX8 103 "ThornCoresModel" "at" "I" ∈ wsX8_go := by decide +kernel
theorem lk_X8_go_100 : Cond.fieldLink RX8 100 "ThornCoresModel" "length" "I" ∈ wsX8_go := by decide +kernel
set_option maxRecDepth 20000 in
set_option maxHeartbeats 4000000 in
theorem c_X8_go0 {l : Launch} {D : va_G} {ad : Nat → Nat} {cI cL : ClassId} (hfl : l.flags = flags0) (hok : adOK ad) (μ : Mem) (w : Nat) {n : Nat} {pr : Int32} {th : Nat → Int32} (hM : Mo μ n pr th) (hT : TV n pr th) (hl : μ 25 6 = nI w) (hw : w ≤ 60) : CtI l D ad cI cL yX8_go wsX8_go (RM 3 70) [.ref (ad 25), .int 0] μ (fun (r : Int32) (μ' : Mem) => goQ μ w μ') := by
  refine ct_i (cc := cX8_go) (maxL := 4) (own := RX8) .int hfl hok (by decide) rfl rfl rfl (Nat.le_of_ble_eq_true rfl) (fun p e s m below meth c C hr => ?_)
  refine go_lv (lv' := [some (.ref (ad 25)), some (.int 0), none, none]) rfl ?_
  obtain ⟨hs0, hs1, hth⟩ := id hM
  have hn := hT.1
  have keyE : ∀ e9 wr u, u 11 = nI e9 → u 12 = b2i wr → (∀ f, f ≠ 11 → f ≠ 12 → u f = μ 25 f) → (wr = false → dfa (μ 29) w = 4) → (wr = true → fE (μ 29) w e9) → Go p l e (headSpec wsX8_go (RM 3 70)).room s m ([.ref (ad 25), .int 0] : List Value).toArray below meth c 0 0 (MQ below (va_Qi (fun (r : Int32) (μ' : Mem) => goQ μ w μ') (fun μ' t => PreW D ad cI cL μ' t) (AW ad)) ([.ref (ad 25), .int 0] : List Value).toArray s 0 0 (AW ad)) (AW ad) D ad cI cL 4 14 [some (.ref (ad 25)), some (.int 0), some (.int 0), some (.int 0)] [] (mset μ 25 u) := by
    intro e9 wr u e1 e2 g hq1 hq2
    refine go_iload3 C (pc := 14) dX8_go_14 ?_
    refine go_if_eq C (pc := 15) (tgt := 96) dX8_go_15 (by decide) (fun h15 => ?_) (fun h15 => ?_)
    · refine go_iload2 C (pc := 96) dX8_go_96 ?_
      exact go_iret C hr dX8_go_97 (⟨e9, wr, ⟨u, rfl, e1, e2, g⟩, hq1, hq2⟩)
    · exact absurd rfl (show ¬ (0 : Int32) = 0 from h15)
  have key : ∀ f i u, w < i + f → i ≤ w → u 11 = nI i → u 12 = 0 → (∀ f, f ≠ 11 → f ≠ 12 → u f = μ 25 f) → dfa (μ 29) i = 0 → (∀ x, x ≤ i → dfa (μ 29) x ≠ 5) → Go p l e (headSpec wsX8_go (RM 3 70)).room s m ([.ref (ad 25), .int 0] : List Value).toArray below meth c 0 0 (MQ below (va_Qi (fun (r : Int32) (μ' : Mem) => goQ μ w μ') (fun μ' t => PreW D ad cI cL μ' t) (AW ad)) ([.ref (ad 25), .int 0] : List Value).toArray s 0 0 (AW ad)) (AW ad) D ad cI cL 4 14 [some (.ref (ad 25)), some (.int 0), some (.int 0), some (.int 1)] [] (mset μ 25 u) := by
    intro f
    induction f with
    | zero => exact fun i u h1 h2 => absurd h1 (by omega)
    | succ f ih =>
      intro i u hf hi e1 e2 g h0 hno
      have hP : Pa (mset μ 25 u) w i false := ⟨e1, (g 6 (by decide) (by decide)).trans hl, e2, hi, hw⟩
      refine go_iload3 C (pc := 14) dX8_go_14 ?_
      refine go_if_eq C (pc := 15) (tgt := 96) dX8_go_15 (by decide) (fun h15 => ?_) (fun h15 => ?_)
      · exact absurd (show (1 : Int32) = 0 from h15) (by decide)
      · refine go_iload2 C (pc := 18) dX8_go_18 ?_
        refine go_aload0 C (pc := 19) dX8_go_19 ?_
        refine go_iload1 C (pc := 20) dX8_go_20 ?_
        refine go_ciV1 C (pc := 21) obj_25 (c_X8_makes0 C.fl C.ok (mset μ 25 u) w i hM hT hP) gX8_go_X8_makes rfl rfl yok_X8_makes ⟨rfl, rfl⟩ ⟨Nat.le_of_ble_eq_true rfl, Nat.le_of_ble_eq_true rfl⟩ (Nat.le_of_ble_eq_true rfl) ⟨Nat.zero_le _, Nat.zero_le _⟩ dX8_go_21 (fun r3 μ3 hc3 => ?_)
        obtain ⟨rfl, u1, hm3, k1, l1, f1⟩ := hc3
        rw [mset_mset] at hm3
        subst hm3
        have hd := mk_dfa (c := μ 29) (w := w) hi h0 hno
        have g1 : ∀ f, f ≠ 11 → f ≠ 12 → u1 f = μ 25 f := fun f a b => (f1 f a b).trans (g f a b)
        replace k1 : u1 11 = nI (mkP (μ 29) w i).1 := k1
        replace l1 : u1 12 = b2i (mkP (μ 29) w i).2 := l1
        refine go_if_eq C (pc := 24) (tgt := 31) dX8_go_24 (by decide) (fun h24 => ?_) (fun h24 => ?_)
        · refine go_iconst C (pc := 31) (v := 0) (by decide) dX8_go_31 ?_
          refine go_iadd C (pc := 32) dX8_go_32 ?_
          refine go_top (y := 0) (by decide +kernel) ?_
          refine go_istore2 C (pc := 33) dX8_go_33 ?_
          refine go_aload0 C (pc := 34) dX8_go_34 ?_
          refine go_get C (pc := 35) 25 (by decide) rfl rfl 12 (by decide) rfl rfl hi_X8_go_RX8 lk_X8_go_106 dX8_go_35 ?_
          refine go_top (y := b2i (mkP (μ 29) w i).2) l1 ?_
          refine go_if_ne C (pc := 38) (tgt := 56) dX8_go_38 (by decide) (fun h38 => ?_) (fun h38 => ?_)
          · refine go_iconst C (pc := 56) (v := 0) (by decide) dX8_go_56 ?_
            refine go_istore3 C (pc := 57) dX8_go_57 ?_
            refine go_iload3 C (pc := 58) dX8_go_58 ?_
            refine go_if_eq C (pc := 59) (tgt := 14) dX8_go_59 (by decide) (fun h59 => ?_) (fun h59 => ?_)
            · rcases hd with ⟨q1, -⟩ | ⟨q1, q2⟩
              · exact ft (q1.symm.trans (bneg h38))
              · exact keyE _ true u1 k1 (l1.trans (congrArg b2i q1)) g1 (fun y => ft y.symm) (fun _ => q2)
            · exact absurd rfl (show ¬ (0 : Int32) = 0 from h59)
          · refine go_aload0 C (pc := 41) dX8_go_41 ?_
            refine go_get C (pc := 42) 25 (by decide) rfl rfl 11 (by decide) rfl rfl hi_X8_go_RX8 lk_X8_go_103 dX8_go_42 ?_
            refine go_top (y := nI ((mkP (μ 29) w i).1)) (k1) ?_
            refine go_aload0 C (pc := 45) dX8_go_45 ?_
            refine go_get C (pc := 46) 25 (by decide) rfl rfl 6 (by decide) rfl rfl hi_X8_go_RX8 lk_X8_go_100 dX8_go_46 ?_
            refine go_top (y := nI (w)) ((g1 6 (by decide) (by decide)).trans hl) ?_
            refine go_icmp_ge C (pc := 49) (tgt := 56) dX8_go_49 (by decide) (fun h49 => ?_) (fun h49 => ?_)
            · refine go_iconst C (pc := 56) (v := 0) (by decide) dX8_go_56 ?_
              refine go_istore3 C (pc := 57) dX8_go_57 ?_
              refine go_iload3 C (pc := 58) dX8_go_58 ?_
              refine go_if_eq C (pc := 59) (tgt := 14) dX8_go_59 (by decide) (fun h59 => ?_) (fun h59 => ?_)
              · rcases hd with ⟨q1, q2, q3, q4, q5⟩ | ⟨q1, q2⟩
                · have hz : i + clen (μ 29) i = w := by have hh : w ≤ (mkP (μ 29) w i).1 := Nat.le_of_not_lt (fun y => nI_ge y (by omega) h49); omega
                  exact keyE _ false u1 k1 (l1.trans (congrArg b2i q1)) g1 (fun _ => by rw [← hz]; exact q4) (fun y => ft y)
                · exact ft ((bpos h38).symm.trans q1)
              · exact absurd rfl (show ¬ (0 : Int32) = 0 from h59)
            · refine go_iconst C (pc := 52) (v := 1) (by decide) dX8_go_52 ?_
              refine go_goto C (pc := 53) (tgt := 57) dX8_go_53 (by decide) ?_
              refine go_istore3 C (pc := 57) dX8_go_57 ?_
              refine go_iload3 C (pc := 58) dX8_go_58 ?_
              refine go_if_eq C (pc := 59) (tgt := 14) dX8_go_59 (by decide) (fun h59 => ?_) (fun h59 => ?_)
              · exact absurd (show (1 : Int32) = 0 from h59) (by decide)
              · obtain ⟨q1, q2, q3, q4, q5⟩ | ⟨q1, -⟩ := hd
                rotate_left
                · exact ft ((bpos h38).symm.trans q1)
                have hlt : i + clen (μ 29) i < w := Nat.lt_of_not_le (fun y => h49 (nI_le (by rw [q2]; exact y) (by omega)))
                have hP1 : Pa (mset μ 25 u1) w (mkP (μ 29) w i).1 false := ⟨k1, (g1 6 (by decide) (by decide)).trans hl, l1.trans (congrArg b2i q1), by omega, hw⟩
                refine go_aload0 C (pc := 62) dX8_go_62 ?_
                refine go_aload0 C (pc := 63) dX8_go_63 ?_
                refine go_bipush C (pc := 64) (v := 44) (by decide) dX8_go_64 ?_
                refine go_ciV1 C (pc := 66) obj_25 (c_X8_isNext C.fl C.ok (mset μ 25 u1) _ w (mkP (μ 29) w i).1 false hP1) gX8_go_X8_isNext rfl rfl yok_X8_isNext ⟨rfl, rfl⟩ ⟨Nat.le_of_ble_eq_true rfl, Nat.le_of_ble_eq_true rfl⟩ (Nat.le_of_ble_eq_true rfl) ⟨Nat.zero_le _, Nat.zero_le _⟩ dX8_go_66 (fun r10 μ10 hc10 => ?_)
                obtain ⟨rfl, u2, hm10, k2, f2⟩ := hc10
                rw [mset_mset] at hm10
                subst hm10
                have g2 : ∀ f, f ≠ 11 → f ≠ 12 → u2 f = μ 25 f := fun f a b => (f2 f a).trans (g1 f a b)
                replace k2 : u2 11 = nI (nxI (μ 29) w (mkP (μ 29) w i).1 false 44) := k2
                refine go_top (y := b2i (nxB (μ 29) w (mkP (μ 29) w i).1 false 44)) rfl ?_
                refine go_if_ne C (pc := 69) (tgt := 76) dX8_go_69 (by decide) (fun h69 => ?_) (fun h69 => ?_)
                · refine go_iconst C (pc := 76) (v := 0) (by decide) dX8_go_76 ?_
                  refine go_put C (pc := 77) 25 (by decide) rfl rfl 12 (by decide) rfl hi_X8_go_RX8 lk_X8_go_106 tyX8_ok nmX8 rfl (nar_z (by decide)) rfl (Nat.le_of_ble_eq_true rfl) rfl dX8_go_77 ?_
                  refine go_aload0 C (pc := 80) dX8_go_80 ?_
                  refine go_get C (pc := 81) 25 (by decide) rfl rfl 12 (by decide) rfl rfl hi_X8_go_RX8 lk_X8_go_106 dX8_go_81 ?_
                  refine go_if_ne C (pc := 84) (tgt := 91) dX8_go_84 (by decide) (fun h84 => ?_) (fun h84 => ?_)
                  · refine go_iconst C (pc := 91) (v := 0) (by decide) dX8_go_91 ?_
                    refine go_istore3 C (pc := 92) dX8_go_92 ?_
                    refine go_goto C (pc := 93) (tgt := 14) dX8_go_93 (by decide) ?_
                    exact absurd rfl (show ¬ (0 : Int32) = 0 from h84)
                  · refine go_iconst C (pc := 87) (v := 1) (by decide) dX8_go_87 ?_
                    refine go_goto C (pc := 88) (tgt := 92) dX8_go_88 (by decide) ?_
                    refine go_istore3 C (pc := 92) dX8_go_92 ?_
                    refine go_goto C (pc := 93) (tgt := 14) dX8_go_93 (by decide) ?_
                    exact go_mem (mset_mset μ 25 u2 (upd u2 12 0)) (ih (i + clen (μ 29) i + 1) (upd u2 12 0) (by omega) (by omega) ((pk_un (by decide)).trans (k2.trans (by rw [nx_t (bneg h69), q2]))) pk_us (fun f a b => (pk_un b).trans (g2 f a b)) (by rw [dfa_s4 q4, if_pos (by have y := (nx_lt (bneg h69)).2.1; rw [q2] at y; exact y)]) (le_cases q5 (fun x y1 y2 => by rw [show x = i + clen (μ 29) i + 1 by omega, dfa_s4 q4, if_pos (by have y := (nx_lt (bneg h69)).2.1; rw [q2] at y; exact y)]; decide)))
                · refine go_iconst C (pc := 72) (v := 1) (by decide) dX8_go_72 ?_
                  refine go_goto C (pc := 73) (tgt := 77) dX8_go_73 (by decide) ?_
                  refine go_put C (pc := 77) 25 (by decide) rfl rfl 12 (by decide) rfl hi_X8_go_RX8 lk_X8_go_106 tyX8_ok nmX8 rfl (nar_z (by decide)) rfl (Nat.le_of_ble_eq_true rfl) rfl dX8_go_77 ?_
                  refine go_aload0 C (pc := 80) dX8_go_80 ?_
                  refine go_get C (pc := 81) 25 (by decide) rfl rfl 12 (by decide) rfl rfl hi_X8_go_RX8 lk_X8_go_106 dX8_go_81 ?_
                  refine go_if_ne C (pc := 84) (tgt := 91) dX8_go_84 (by decide) (fun h84 => ?_) (fun h84 => ?_)
                  · refine go_iconst C (pc := 91) (v := 0) (by decide) dX8_go_91 ?_
                    refine go_istore3 C (pc := 92) dX8_go_92 ?_
                    refine go_goto C (pc := 93) (tgt := 14) dX8_go_93 (by decide) ?_
                    exact go_mem (mset_mset μ 25 u2 (upd u2 12 1)) (keyE (i + clen (μ 29) i) true (upd u2 12 1) ((pk_un (by decide)).trans (k2.trans (by rw [nx_f (bpos h69), q2]))) pk_us (fun f a b => (pk_un b).trans (g2 f a b)) (fun y => ft y.symm) (fun _ => ⟨by omega, q5, fun _ => by rw [dfa_s4 q4, if_neg (fun y => nx_no (bpos h69) (by rw [q2]; exact ⟨hlt, y⟩))], fun y => absurd y (by omega)⟩))
                  · refine go_iconst C (pc := 87) (v := 1) (by decide) dX8_go_87 ?_
                    refine go_goto C (pc := 88) (tgt := 92) dX8_go_88 (by decide) ?_
                    refine go_istore3 C (pc := 92) dX8_go_92 ?_
                    refine go_goto C (pc := 93) (tgt := 14) dX8_go_93 (by decide) ?_
                    exact absurd (show (1 : Int32) = 0 from h84) (by decide)
        · exact absurd rfl (show ¬ (0 : Int32) = 0 from h24)
  refine go_aload0 C (pc := 0) dX8_go_0 ?_
  refine go_iconst C (pc := 1) (v := 0) (by decide) dX8_go_1 ?_
  refine go_put C (pc := 2) 25 (by decide) rfl rfl 11 (by decide) rfl hi_X8_go_RX8 lk_X8_go_103 tyX8_ok nmX8 rfl rfl rfl (Nat.le_of_ble_eq_true rfl) rfl dX8_go_2 ?_
  refine go_aload0 C (pc := 5) dX8_go_5 ?_
  refine go_iconst C (pc := 6) (v := 0) (by decide) dX8_go_6 ?_
  refine go_put C (pc := 7) 25 (by decide) rfl rfl 12 (by decide) rfl hi_X8_go_RX8 lk_X8_go_106 tyX8_ok nmX8 rfl (nar_z (by decide)) rfl (Nat.le_of_ble_eq_true rfl) rfl dX8_go_7 ?_
  refine go_iconst C (pc := 10) (v := 0) (by decide) dX8_go_10 ?_
  refine go_istore2 C (pc := 11) dX8_go_11 ?_
  refine go_iconst C (pc := 12) (v := 1) (by decide) dX8_go_12 ?_
  refine go_istore3 C (pc := 13) dX8_go_13 ?_
  exact go_mem (mset_mset μ 25 _ _) (key (w + 1) 0 _ (by omega) (Nat.zero_le _) rfl rfl (fun f a b => (pk_un b).trans (pk_un a)) rfl (fun x hx => by rw [show x = 0 by omega]; show (0 : Nat) ≠ 5; decide))

