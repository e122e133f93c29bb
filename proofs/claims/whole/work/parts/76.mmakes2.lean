/-! ===== ThornCoresModel: a change is read and made ===== -/
theorem Pa.keep {μ1 μ' : Mem} {w i : Nat} {wr : Bool} {L : List Nat} (h : Pa μ1 w i wr) (hs : same μ1 μ' L) (hL : 25 ∉ L) : Pa μ' w i wr := by
  unfold Pa; rw [hs 25 hL]; exact h
theorem Pa_eq {μ : Mem} {w a z : Nat} {b : Bool} (h : Pa μ w a b) (e1 : z = a) (e2 : b = false) : Pa μ w z false := by subst e1; subst e2; exact h
theorem ft {P : Prop} (h : false = true) : P := by cases h
theorem has_dec {n j : Nat} (hn : n ≤ 16) (hj : j < 16) : hasB (nI n) (nI j) = decide (j < n) := hasB_nI rfl hn (by omega)
set_option maxRecDepth 20000 in
set_option maxHeartbeats 4000000 in
theorem c_X8_makes1 {l : Launch} {D : va_G} {ad : Nat → Nat} {cI cL : ClassId} (hfl : l.flags = flags0) (hok : adOK ad) (μ : Mem) (w i z : Nat) {n : Nat} {pr : Int32} {th : Nat → Int32} (hM : Mo μ n pr th) (hT : TV n pr th) (hP : Pa μ w i false) (hv : mkP (μ 29) w i = (z, false)) : CtI l D ad cI cL yX8_makes wsX8_makes (RM 2 44) [.ref (ad 25), .int 1] μ (fun (r : Int32) (μ' : Mem) => r = b2i (chgS (μ 29) i (n, pr, th)).1 ∧ Mo μ' (chgS (μ 29) i (n, pr, th)).2.1 (chgS (μ 29) i (n, pr, th)).2.2.1 (chgS (μ 29) i (n, pr, th)).2.2.2 ∧ Pa μ' w z false ∧ (∀ f, f ≠ 11 → f ≠ 12 → μ' 25 f = μ 25 f) ∧ same μ μ' [25, 26]) := by
  refine ct_i (cc := cX8_makes) (maxL := 7) (own := RX8) .boolean hfl hok (by decide) rfl rfl rfl (Nat.le_of_ble_eq_true rfl) (fun p e s m below meth c C hr => ?_)
  refine go_lv (lv' := [some (.ref (ad 25)), some (.int 1), none, none, none, none, none]) rfl ?_
  obtain ⟨hs0, hs1, hth⟩ := id hM
  have hn := hT.1
  refine go_aload0 C (pc := 0) dX8_makes_0 ?_
  refine go_bipush C (pc := 1) (v := 43) (by decide) dX8_makes_1 ?_
  refine go_ciV1 C (pc := 3) obj_25 (c_X8_isNext C.fl C.ok μ _ w i false hP) gX8_makes_X8_isNext rfl rfl yok_X8_isNext ⟨rfl, rfl⟩ ⟨Nat.le_of_ble_eq_true rfl, Nat.le_of_ble_eq_true rfl⟩ (Nat.le_of_ble_eq_true rfl) ⟨Nat.zero_le _, Nat.zero_le _⟩ dX8_makes_3 (fun r1 μ1 hc1 => ?_)
  obtain ⟨rfl, u1, rfl, e1, f1⟩ := hc1
  have hP1 : Pa (mset μ 25 u1) w (nxI (μ 29) w i false 43) false := Pa.nx (c := μ 29) hP e1 f1
  have g1 : ∀ f, f ≠ 11 → f ≠ 12 → u1 f = μ 25 f := fun f a _ => f1 f a
  refine go_if_eq C (pc := 6) (tgt := 50) dX8_makes_6 (by decide) (fun h6 => ?_) (fun h6 => ?_)
  · refine go_aload0 C (pc := 50) dX8_makes_50 ?_
    refine go_bipush C (pc := 51) (v := 33) (by decide) dX8_makes_51 ?_
    refine go_ciV1 C (pc := 53) obj_25 (c_X8_isNext C.fl C.ok (mset μ 25 u1) _ w (nxI (μ 29) w i false 43) false hP1) gX8_makes_X8_isNext rfl rfl yok_X8_isNext ⟨rfl, rfl⟩ ⟨Nat.le_of_ble_eq_true rfl, Nat.le_of_ble_eq_true rfl⟩ (Nat.le_of_ble_eq_true rfl) ⟨Nat.zero_le _, Nat.zero_le _⟩ dX8_makes_53 (fun r3 μ3 hc3 => ?_)
    obtain ⟨rfl, u2, hm3, e2, f2⟩ := hc3
    rw [mset_mset] at hm3
    subst hm3
    have hP2 : Pa (mset μ 25 u2) w (nxI (μ 29) w (nxI (μ 29) w i false 43) false 33) false := by have := Pa.nx (c := μ 29) hP1 e2 f2; rw [mset_mset] at this; exact this
    have g2 : ∀ f, f ≠ 11 → f ≠ 12 → u2 f = μ 25 f := fun f a b => (f2 f a).trans (g1 f a b)
    refine go_top (y := b2i (nxB (μ 29) w (nxI (μ 29) w i false 43) false 33)) rfl ?_
    refine go_if_eq C (pc := 56) (tgt := 105) dX8_makes_56 (by decide) (fun h56 => ?_) (fun h56 => ?_)
    · refine go_aload0 C (pc := 105) dX8_makes_105 ?_
      refine go_iconst C (pc := 106) (v := 0) (by decide) dX8_makes_106 ?_
      refine go_ciV1 C (pc := 107) obj_25 (c_X8_name C.fl C.ok (mset μ 25 u2) _ w (nxI (μ 29) w (nxI (μ 29) w i false 43) false 33) false hP2) gX8_makes_X8_name rfl rfl yok_X8_name ⟨rfl, rfl⟩ ⟨Nat.le_of_ble_eq_true rfl, Nat.le_of_ble_eq_true rfl⟩ (Nat.le_of_ble_eq_true rfl) ⟨Nat.zero_le _, Nat.zero_le _⟩ dX8_makes_107 (fun r5 μ5 hc5 => ?_)
      obtain ⟨rfl, u3, hm5, e3, k3, f3⟩ := hc5
      rw [mset_mset] at hm5
      subst hm5
      have hP3 : Pa (mset μ 25 u3) w (nmI (μ 29) w (nxI (μ 29) w (nxI (μ 29) w i false 43) false 33) false 0) (nmB (μ 29) w (nxI (μ 29) w (nxI (μ 29) w i false 43) false 33) false 0) := by have := Pa.nm (c := μ 29) hP2 e3 k3 f3; rw [mset_mset] at this; exact this
      have g3 : ∀ f, f ≠ 11 → f ≠ 12 → u3 f = μ 25 f := fun f a b => (f3 f a b).trans (g2 f a b)
      have hB1 : (nmB (μ 29) w (nxI (μ 29) w (nxI (μ 29) w i false 43) false 33) false 0) = false := by
        cases w0 : (nmB (μ 29) w (nxI (μ 29) w (nxI (μ 29) w i false 43) false 33) false 0)
        · rfl
        · exact ft (congrArg Prod.snd (hv.symm.trans (mk_1 (bpos h6) (bpos h56) w0 0)))
      obtain ⟨q1, q2, q3, q4, q5⟩ := nm_f hB1
      have hI1 : (nxI (μ 29) w (nxI (μ 29) w i false 43) false 33) = i := by rw [nx_f (bpos h56), nx_f (bpos h6)]
      have hn43 : ¬ μ 29 i = 43 := fun y => nx_no (bpos h6) ⟨by rw [hI1] at q2; exact q2, y⟩
      have hn33 : ¬ μ 29 i = 33 := fun y => nx_no (bpos h56) (by rw [nx_f (bpos h6)]; exact ⟨by rw [hI1] at q2; exact q2, y⟩)
      rw [hI1] at q3
      obtain ⟨r1, r2, r3⟩ := nm_ok q3
      have hC1 : nmC (μ 29) w (nxI (μ 29) w (nxI (μ 29) w i false 43) false 33) false = μ 29 i := q5.trans (by rw [hI1])
      refine go_top (y := nI (nmN (μ 29) i)) ((congrArg (· - 97) hC1).trans r1) ?_
      refine go_istore2 C (pc := 110) dX8_makes_110 ?_
      refine go_aload0 C (pc := 111) dX8_makes_111 ?_
      refine go_bipush C (pc := 112) (v := 45) (by decide) dX8_makes_112 ?_
      refine go_ciV1 C (pc := 114) obj_25 (c_X8_isNext C.fl C.ok (mset μ 25 u3) _ w (nmI (μ 29) w (nxI (μ 29) w (nxI (μ 29) w i false 43) false 33) false 0) (nmB (μ 29) w (nxI (μ 29) w (nxI (μ 29) w i false 43) false 33) false 0) hP3) gX8_makes_X8_isNext rfl rfl yok_X8_isNext ⟨rfl, rfl⟩ ⟨Nat.le_of_ble_eq_true rfl, Nat.le_of_ble_eq_true rfl⟩ (Nat.le_of_ble_eq_true rfl) ⟨Nat.zero_le _, Nat.zero_le _⟩ dX8_makes_114 (fun r6 μ6 hc6 => ?_)
      obtain ⟨rfl, u4, hm6, e4, f4⟩ := hc6
      rw [mset_mset] at hm6
      subst hm6
      have hP4 : Pa (mset μ 25 u4) w (nxI (μ 29) w (nmI (μ 29) w (nxI (μ 29) w (nxI (μ 29) w i false 43) false 33) false 0) (nmB (μ 29) w (nxI (μ 29) w (nxI (μ 29) w i false 43) false 33) false 0) 45) (nmB (μ 29) w (nxI (μ 29) w (nxI (μ 29) w i false 43) false 33) false 0) := by have := Pa.nx (c := μ 29) hP3 e4 f4; rw [mset_mset] at this; exact this
      have g4 : ∀ f, f ≠ 11 → f ≠ 12 → u4 f = μ 25 f := fun f a b => (f4 f a).trans (g3 f a b)
      refine go_top (y := b2i (nxB (μ 29) w (nmI (μ 29) w (nxI (μ 29) w (nxI (μ 29) w i false 43) false 33) false 0) (nmB (μ 29) w (nxI (μ 29) w (nxI (μ 29) w i false 43) false 33) false 0) 45)) rfl ?_
      refine go_istore3 C (pc := 117) dX8_makes_117 ?_
      refine go_aload0 C (pc := 118) dX8_makes_118 ?_
      refine go_aload0 C (pc := 119) dX8_makes_119 ?_
      refine go_get C (pc := 120) 25 (by decide) rfl rfl 12 (by decide) rfl rfl hi_X8_makes_RX8 lk_X8_makes_106 dX8_makes_120 ?_
      refine go_top (y := b2i (nmB (μ 29) w (nxI (μ 29) w (nxI (μ 29) w i false 43) false 33) false 0)) hP4.2.2.1 ?_
      refine go_if_ne C (pc := 123) (tgt := 139) dX8_makes_123 (by decide) (fun h123 => ?_) (fun h123 => ?_)
      · exact ft (hB1.symm.trans (bneg h123))
      · refine go_iload3 C (pc := 126) dX8_makes_126 ?_
        refine go_if_ne C (pc := 127) (tgt := 143) dX8_makes_127 (by decide) (fun h127 => ?_) (fun h127 => ?_)
        · refine go_iconst C (pc := 143) (v := 0) (by decide) dX8_makes_143 ?_
          refine go_put C (pc := 144) 25 (by decide) rfl rfl 12 (by decide) rfl hi_X8_makes_RX8 lk_X8_makes_106 tyX8_ok nmX8 rfl (nar_z (by decide)) rfl (Nat.le_of_ble_eq_true rfl) rfl dX8_makes_144 ?_
          refine go_mem (mset_mset μ 25 u4 (upd u4 12 0)) ?_
          have hP6 : Pa (mset μ 25 (upd u4 12 0)) w (nxI (μ 29) w (nmI (μ 29) w (nxI (μ 29) w (nxI (μ 29) w i false 43) false 33) false 0) (nmB (μ 29) w (nxI (μ 29) w (nxI (μ 29) w i false 43) false 33) false 0) 45) false := ⟨hP4.1, hP4.2.1, rfl, hP4.2.2.2.1, hP4.2.2.2.2⟩
          have g6 : ∀ f, f ≠ 11 → f ≠ 12 → upd u4 12 0 f = μ 25 f := fun f a b => (pk_un b).trans (g4 f a b)
          refine go_aload0 C (pc := 147) dX8_makes_147 ?_
          refine go_iload2 C (pc := 148) dX8_makes_148 ?_
          refine go_bipush C (pc := 149) (v := 97) (by decide) dX8_makes_149 ?_
          refine go_iadd C (pc := 151) dX8_makes_151 ?_
          refine go_top (y := nI ((nmN (μ 29) i) + 97)) (by rw [show (97 : Int32) = nI 97 from by decide +kernel, nI_add]) ?_
          refine go_top (y := (nmC (μ 29) w (nxI (μ 29) w (nxI (μ 29) w i false 43) false 33) false - 97 + 97)) (by rw [m97, hC1]; exact r3.symm) ?_
          refine go_ciV1 C (pc := 152) obj_25 (c_X8_name C.fl C.ok _ _ _ _ _ hP6) gX8_makes_X8_name rfl rfl yok_X8_name ⟨rfl, rfl⟩ ⟨Nat.le_of_ble_eq_true rfl, Nat.le_of_ble_eq_true rfl⟩ (Nat.le_of_ble_eq_true rfl) ⟨Nat.zero_le _, Nat.zero_le _⟩ dX8_makes_152 (fun r9 μ9 hc9 => ?_)
          obtain ⟨rfl, u7, hm9, e7, k7, f7⟩ := hc9
          rw [mset_mset] at hm9
          subst hm9
          have hk := mk_2 (bpos h6) (bpos h56) hB1 (bneg h127)
          rw [hv] at hk
          have hB2 : nmB (μ 29) w (nxI (μ 29) w (nmI (μ 29) w (nxI (μ 29) w (nxI (μ 29) w i false 43) false 33) false 0) (nmB (μ 29) w (nxI (μ 29) w (nxI (μ 29) w i false 43) false 33) false 0) 45) false (nmC (μ 29) w (nxI (μ 29) w (nxI (μ 29) w i false 43) false 33) false - 97 + 97) = false := (congrArg Prod.snd hk).symm
          obtain ⟨s1, s2, s3, s4, s5⟩ := nm_f hB2
          have hI2 : (nxI (μ 29) w (nmI (μ 29) w (nxI (μ 29) w (nxI (μ 29) w i false 43) false 33) false 0) (nmB (μ 29) w (nxI (μ 29) w (nxI (μ 29) w i false 43) false 33) false 0) 45) = i + 2 := by rw [nx_t (bneg h127), q1, hI1]
          have hC2 : nmC (μ 29) w (nxI (μ 29) w (nmI (μ 29) w (nxI (μ 29) w (nxI (μ 29) w i false 43) false 33) false 0) (nmB (μ 29) w (nxI (μ 29) w (nxI (μ 29) w i false 43) false 33) false 0) 45) false = μ 29 (i + 2) := s5.trans (by rw [hI2])
          rw [hI2] at s3 s4
          rw [hC1, m97] at s4
          obtain ⟨t1, t2, t3⟩ := nm_ok s3
          have hne : nmN (μ 29) i ≠ nmN (μ 29) (i + 2) := fun y => s4 (by rw [t3, r3, y])
          have hsg : μ 29 (i + 1) = 45 := by have y := (nx_lt (bneg h127)).2.1; rw [q1, hI1] at y; exact y
          have hP7 : Pa (mset μ 25 u7) w z false := by have hh := Pa.nm (c := μ 29) hP6 e7 k7 f7; rw [mset_mset] at hh; exact Pa_eq hh (congrArg Prod.fst hk) hB2
          have g7 : ∀ f, f ≠ 11 → f ≠ 12 → u7 f = μ 25 f := fun f a b => (f7 f a b).trans (g6 f a b)
          refine go_top (y := nI (nmN (μ 29) (i + 2))) ((congrArg (· - 97) hC2).trans t1) ?_
          refine go_istore4 C (pc := 155) dX8_makes_155 ?_
          refine go_iload1 C (pc := 157) dX8_makes_157 ?_
          refine go_if_eq C (pc := 158) (tgt := 193) dX8_makes_158 (by decide) (fun h158 => ?_) (fun h158 => ?_)
          · refine go_iconst C (pc := 193) (v := 0) (by decide) dX8_makes_193 ?_
            refine go_istore5 C (pc := 194) dX8_makes_194 ?_
            refine go_iload5 C (pc := 196) dX8_makes_196 ?_
            refine go_if_eq C (pc := 198) (tgt := 224) dX8_makes_198 (by decide) (fun h198 => ?_) (fun h198 => ?_)
            · refine go_iload5 C (pc := 224) dX8_makes_224 ?_
              exact absurd (show (1 : Int32) = 0 from h158) (by decide)
            · refine go_iload3 C (pc := 201) dX8_makes_201 ?_
              refine go_if_eq C (pc := 202) (tgt := 215) dX8_makes_202 (by decide) (fun h202 => ?_) (fun h202 => ?_)
              · refine go_aload0 C (pc := 215) dX8_makes_215 ?_
                refine go_iload2 C (pc := 216) dX8_makes_216 ?_
                refine go_iload4 C (pc := 217) dX8_makes_217 ?_
                refine go_ciV2 C (pc := 219) obj_25 (c_X8_cuts C.fl C.ok (mset μ 25 u7) _ _ hM hT r2 t2) gX8_makes_X8_cuts rfl rfl yok_X8_cuts ⟨rfl, rfl⟩ ⟨Nat.le_of_ble_eq_true rfl, Nat.le_of_ble_eq_true rfl⟩ (Nat.le_of_ble_eq_true rfl) ⟨Nat.zero_le _, Nat.zero_le _⟩ dX8_makes_219 (fun r13 μ13 hc13 => ?_)
                obtain ⟨rfl, hMo, hsm⟩ := hc13
                refine go_istore6 C (pc := 222) dX8_makes_222 ?_
                refine go_iload5 C (pc := 224) dX8_makes_224 ?_
                exact absurd (show (1 : Int32) = 0 from h158) (by decide)
              · refine go_aload0 C (pc := 205) dX8_makes_205 ?_
                refine go_iload2 C (pc := 206) dX8_makes_206 ?_
                refine go_iload4 C (pc := 207) dX8_makes_207 ?_
                refine go_ciV2 C (pc := 209) obj_25 (c_X8_binds C.fl C.ok (mset μ 25 u7) _ _ hM hT r2 t2) gX8_makes_X8_binds rfl rfl yok_X8_binds ⟨rfl, rfl⟩ ⟨Nat.le_of_ble_eq_true rfl, Nat.le_of_ble_eq_true rfl⟩ (Nat.le_of_ble_eq_true rfl) ⟨Nat.zero_le _, Nat.zero_le _⟩ dX8_makes_209 (fun r14 μ14 hc14 => ?_)
                obtain ⟨rfl, hMo, hsm⟩ := hc14
                refine go_goto C (pc := 212) (tgt := 222) dX8_makes_212 (by decide) ?_
                refine go_istore6 C (pc := 222) dX8_makes_222 ?_
                refine go_iload5 C (pc := 224) dX8_makes_224 ?_
                exact absurd (show (1 : Int32) = 0 from h158) (by decide)
          · refine go_aload0 C (pc := 161) dX8_makes_161 ?_
            refine go_iload2 C (pc := 162) dX8_makes_162 ?_
            refine go_ciV1 C (pc := 163) obj_25 (c_X8_isPlant C.fl C.ok (mset μ 25 u7) _ hM hT) gX8_makes_X8_isPlant rfl rfl yok_X8_isPlant ⟨rfl, rfl⟩ ⟨Nat.le_of_ble_eq_true rfl, Nat.le_of_ble_eq_true rfl⟩ (Nat.le_of_ble_eq_true rfl) ⟨Nat.zero_le _, Nat.zero_le _⟩ dX8_makes_163 (fun r15 μ15 hc15 => ?_)
            obtain ⟨rfl, hm15⟩ := hc15
            replace hm15 := hm15.symm
            subst hm15
            refine go_if_eq C (pc := 166) (tgt := 193) dX8_makes_166 (by decide) (fun h166 => ?_) (fun h166 => ?_)
            · refine go_iconst C (pc := 193) (v := 0) (by decide) dX8_makes_193 ?_
              refine go_istore5 C (pc := 194) dX8_makes_194 ?_
              refine go_iload5 C (pc := 196) dX8_makes_196 ?_
              refine go_if_eq C (pc := 198) (tgt := 224) dX8_makes_198 (by decide) (fun h198 => ?_) (fun h198 => ?_)
              · refine go_iload5 C (pc := 224) dX8_makes_224 ?_
                have ha1 : ¬ nmN (μ 29) i < n := of_decide_eq_false ((has_dec hn r2).symm.trans (bpos h166))
                have hg : chgS (μ 29) i (n, pr, th) = (false, (n, pr, th)) := by rw [chgS, if_neg hn43, if_neg hn33, if_pos hsg]; exact if_neg (fun y => ha1 y.1)
                exact go_zret C hr dX8_makes_226 (by decide) (by rw [hg]; exact ⟨rfl, hM, hP7, g7, (by repeat' (first | exact same_rf | refine same_ms ?_ (by decide)))⟩)
              · refine go_iload3 C (pc := 201) dX8_makes_201 ?_
                refine go_if_eq C (pc := 202) (tgt := 215) dX8_makes_202 (by decide) (fun h202 => ?_) (fun h202 => ?_)
                · refine go_aload0 C (pc := 215) dX8_makes_215 ?_
                  refine go_iload2 C (pc := 216) dX8_makes_216 ?_
                  refine go_iload4 C (pc := 217) dX8_makes_217 ?_
                  refine go_ciV2 C (pc := 219) obj_25 (c_X8_cuts C.fl C.ok (mset μ 25 u7) _ _ hM hT r2 t2) gX8_makes_X8_cuts rfl rfl yok_X8_cuts ⟨rfl, rfl⟩ ⟨Nat.le_of_ble_eq_true rfl, Nat.le_of_ble_eq_true rfl⟩ (Nat.le_of_ble_eq_true rfl) ⟨Nat.zero_le _, Nat.zero_le _⟩ dX8_makes_219 (fun r19 μ19 hc19 => ?_)
                  obtain ⟨rfl, hMo, hsm⟩ := hc19
                  refine go_istore6 C (pc := 222) dX8_makes_222 ?_
                  refine go_iload5 C (pc := 224) dX8_makes_224 ?_
                  exact absurd rfl (show ¬ (0 : Int32) = 0 from h198)
                · refine go_aload0 C (pc := 205) dX8_makes_205 ?_
                  refine go_iload2 C (pc := 206) dX8_makes_206 ?_
                  refine go_iload4 C (pc := 207) dX8_makes_207 ?_
                  refine go_ciV2 C (pc := 209) obj_25 (c_X8_binds C.fl C.ok (mset μ 25 u7) _ _ hM hT r2 t2) gX8_makes_X8_binds rfl rfl yok_X8_binds ⟨rfl, rfl⟩ ⟨Nat.le_of_ble_eq_true rfl, Nat.le_of_ble_eq_true rfl⟩ (Nat.le_of_ble_eq_true rfl) ⟨Nat.zero_le _, Nat.zero_le _⟩ dX8_makes_209 (fun r20 μ20 hc20 => ?_)
                  obtain ⟨rfl, hMo, hsm⟩ := hc20
                  refine go_goto C (pc := 212) (tgt := 222) dX8_makes_212 (by decide) ?_
                  refine go_istore6 C (pc := 222) dX8_makes_222 ?_
                  refine go_iload5 C (pc := 224) dX8_makes_224 ?_
                  exact absurd rfl (show ¬ (0 : Int32) = 0 from h198)
            · refine go_aload0 C (pc := 169) dX8_makes_169 ?_
              refine go_iload4 C (pc := 170) dX8_makes_170 ?_
              refine go_ciV1 C (pc := 172) obj_25 (c_X8_isPlant C.fl C.ok (mset μ 25 u7) _ hM hT) gX8_makes_X8_isPlant rfl rfl yok_X8_isPlant ⟨rfl, rfl⟩ ⟨Nat.le_of_ble_eq_true rfl, Nat.le_of_ble_eq_true rfl⟩ (Nat.le_of_ble_eq_true rfl) ⟨Nat.zero_le _, Nat.zero_le _⟩ dX8_makes_172 (fun r21 μ21 hc21 => ?_)
              obtain ⟨rfl, hm21⟩ := hc21
              replace hm21 := hm21.symm
              subst hm21
              refine go_if_eq C (pc := 175) (tgt := 193) dX8_makes_175 (by decide) (fun h175 => ?_) (fun h175 => ?_)
              · refine go_iconst C (pc := 193) (v := 0) (by decide) dX8_makes_193 ?_
                refine go_istore5 C (pc := 194) dX8_makes_194 ?_
                refine go_iload5 C (pc := 196) dX8_makes_196 ?_
                refine go_if_eq C (pc := 198) (tgt := 224) dX8_makes_198 (by decide) (fun h198 => ?_) (fun h198 => ?_)
                · refine go_iload5 C (pc := 224) dX8_makes_224 ?_
                  have ha2 : ¬ nmN (μ 29) (i + 2) < n := of_decide_eq_false ((has_dec hn t2).symm.trans (bpos h175))
                  have hg : chgS (μ 29) i (n, pr, th) = (false, (n, pr, th)) := by rw [chgS, if_neg hn43, if_neg hn33, if_pos hsg]; exact if_neg (fun y => ha2 y.2.1)
                  exact go_zret C hr dX8_makes_226 (by decide) (by rw [hg]; exact ⟨rfl, hM, hP7, g7, (by repeat' (first | exact same_rf | refine same_ms ?_ (by decide)))⟩)
                · refine go_iload3 C (pc := 201) dX8_makes_201 ?_
                  refine go_if_eq C (pc := 202) (tgt := 215) dX8_makes_202 (by decide) (fun h202 => ?_) (fun h202 => ?_)
                  · refine go_aload0 C (pc := 215) dX8_makes_215 ?_
                    refine go_iload2 C (pc := 216) dX8_makes_216 ?_
                    refine go_iload4 C (pc := 217) dX8_makes_217 ?_
                    refine go_ciV2 C (pc := 219) obj_25 (c_X8_cuts C.fl C.ok (mset μ 25 u7) _ _ hM hT r2 t2) gX8_makes_X8_cuts rfl rfl yok_X8_cuts ⟨rfl, rfl⟩ ⟨Nat.le_of_ble_eq_true rfl, Nat.le_of_ble_eq_true rfl⟩ (Nat.le_of_ble_eq_true rfl) ⟨Nat.zero_le _, Nat.zero_le _⟩ dX8_makes_219 (fun r25 μ25 hc25 => ?_)
                    obtain ⟨rfl, hMo, hsm⟩ := hc25
                    refine go_istore6 C (pc := 222) dX8_makes_222 ?_
                    refine go_iload5 C (pc := 224) dX8_makes_224 ?_
                    exact absurd rfl (show ¬ (0 : Int32) = 0 from h198)
                  · refine go_aload0 C (pc := 205) dX8_makes_205 ?_
                    refine go_iload2 C (pc := 206) dX8_makes_206 ?_
                    refine go_iload4 C (pc := 207) dX8_makes_207 ?_
                    refine go_ciV2 C (pc := 209) obj_25 (c_X8_binds C.fl C.ok (mset μ 25 u7) _ _ hM hT r2 t2) gX8_makes_X8_binds rfl rfl yok_X8_binds ⟨rfl, rfl⟩ ⟨Nat.le_of_ble_eq_true rfl, Nat.le_of_ble_eq_true rfl⟩ (Nat.le_of_ble_eq_true rfl) ⟨Nat.zero_le _, Nat.zero_le _⟩ dX8_makes_209 (fun r26 μ26 hc26 => ?_)
                    obtain ⟨rfl, hMo, hsm⟩ := hc26
                    refine go_goto C (pc := 212) (tgt := 222) dX8_makes_212 (by decide) ?_
                    refine go_istore6 C (pc := 222) dX8_makes_222 ?_
                    refine go_iload5 C (pc := 224) dX8_makes_224 ?_
                    exact absurd rfl (show ¬ (0 : Int32) = 0 from h198)
              · refine go_aload0 C (pc := 178) dX8_makes_178 ?_
                refine go_iload2 C (pc := 179) dX8_makes_179 ?_
                refine go_iload4 C (pc := 180) dX8_makes_180 ?_
                refine go_ciV2 C (pc := 182) obj_25 (c_X8_areBound C.fl C.ok (mset μ 25 u7) _ _ hM hT r2 (by omega)) gX8_makes_X8_areBound rfl rfl yok_X8_areBound ⟨rfl, rfl⟩ ⟨Nat.le_of_ble_eq_true rfl, Nat.le_of_ble_eq_true rfl⟩ (Nat.le_of_ble_eq_true rfl) ⟨Nat.zero_le _, Nat.zero_le _⟩ dX8_makes_182 (fun r27 μ27 hc27 => ?_)
                obtain ⟨rfl, hm27⟩ := hc27
                replace hm27 := hm27.symm
                subst hm27
                refine go_iload3 C (pc := 185) dX8_makes_185 ?_
                refine go_icmp_eq C (pc := 186) (tgt := 193) dX8_makes_186 (by decide) (fun h186 => ?_) (fun h186 => ?_)
                · refine go_iconst C (pc := 193) (v := 0) (by decide) dX8_makes_193 ?_
                  refine go_istore5 C (pc := 194) dX8_makes_194 ?_
                  refine go_iload5 C (pc := 196) dX8_makes_196 ?_
                  refine go_if_eq C (pc := 198) (tgt := 224) dX8_makes_198 (by decide) (fun h198 => ?_) (fun h198 => ?_)
                  · refine go_iload5 C (pc := 224) dX8_makes_224 ?_
                    have hbt := b2i_inj h186
                    have hg : chgS (μ 29) i (n, pr, th) = (false, (n, pr, th)) := by rw [chgS, if_neg hn43, if_neg hn33, if_pos hsg]; exact if_neg (fun y => by rw [hbt, bneg h127] at y; exact absurd y.2.2.2 (by decide))
                    exact go_zret C hr dX8_makes_226 (by decide) (by rw [hg]; exact ⟨rfl, hM, hP7, g7, (by repeat' (first | exact same_rf | refine same_ms ?_ (by decide)))⟩)
                  · refine go_iload3 C (pc := 201) dX8_makes_201 ?_
                    refine go_if_eq C (pc := 202) (tgt := 215) dX8_makes_202 (by decide) (fun h202 => ?_) (fun h202 => ?_)
                    · refine go_aload0 C (pc := 215) dX8_makes_215 ?_
                      refine go_iload2 C (pc := 216) dX8_makes_216 ?_
                      refine go_iload4 C (pc := 217) dX8_makes_217 ?_
                      refine go_ciV2 C (pc := 219) obj_25 (c_X8_cuts C.fl C.ok (mset μ 25 u7) _ _ hM hT r2 t2) gX8_makes_X8_cuts rfl rfl yok_X8_cuts ⟨rfl, rfl⟩ ⟨Nat.le_of_ble_eq_true rfl, Nat.le_of_ble_eq_true rfl⟩ (Nat.le_of_ble_eq_true rfl) ⟨Nat.zero_le _, Nat.zero_le _⟩ dX8_makes_219 (fun r31 μ31 hc31 => ?_)
                      obtain ⟨rfl, hMo, hsm⟩ := hc31
                      refine go_istore6 C (pc := 222) dX8_makes_222 ?_
                      refine go_iload5 C (pc := 224) dX8_makes_224 ?_
                      exact absurd rfl (show ¬ (0 : Int32) = 0 from h198)
                    · refine go_aload0 C (pc := 205) dX8_makes_205 ?_
                      refine go_iload2 C (pc := 206) dX8_makes_206 ?_
                      refine go_iload4 C (pc := 207) dX8_makes_207 ?_
                      refine go_ciV2 C (pc := 209) obj_25 (c_X8_binds C.fl C.ok (mset μ 25 u7) _ _ hM hT r2 t2) gX8_makes_X8_binds rfl rfl yok_X8_binds ⟨rfl, rfl⟩ ⟨Nat.le_of_ble_eq_true rfl, Nat.le_of_ble_eq_true rfl⟩ (Nat.le_of_ble_eq_true rfl) ⟨Nat.zero_le _, Nat.zero_le _⟩ dX8_makes_209 (fun r32 μ32 hc32 => ?_)
                      obtain ⟨rfl, hMo, hsm⟩ := hc32
                      refine go_goto C (pc := 212) (tgt := 222) dX8_makes_212 (by decide) ?_
                      refine go_istore6 C (pc := 222) dX8_makes_222 ?_
                      refine go_iload5 C (pc := 224) dX8_makes_224 ?_
                      exact absurd rfl (show ¬ (0 : Int32) = 0 from h198)
                · refine go_iconst C (pc := 189) (v := 1) (by decide) dX8_makes_189 ?_
                  refine go_goto C (pc := 190) (tgt := 194) dX8_makes_190 (by decide) ?_
                  refine go_istore5 C (pc := 194) dX8_makes_194 ?_
                  refine go_iload5 C (pc := 196) dX8_makes_196 ?_
                  refine go_if_eq C (pc := 198) (tgt := 224) dX8_makes_198 (by decide) (fun h198 => ?_) (fun h198 => ?_)
                  · refine go_iload5 C (pc := 224) dX8_makes_224 ?_
                    exact absurd (show (1 : Int32) = 0 from h198) (by decide)
                  · refine go_iload3 C (pc := 201) dX8_makes_201 ?_
                    refine go_if_eq C (pc := 202) (tgt := 215) dX8_makes_202 (by decide) (fun h202 => ?_) (fun h202 => ?_)
                    · refine go_aload0 C (pc := 215) dX8_makes_215 ?_
                      refine go_iload2 C (pc := 216) dX8_makes_216 ?_
                      refine go_iload4 C (pc := 217) dX8_makes_217 ?_
                      refine go_ciV2 C (pc := 219) obj_25 (c_X8_cuts C.fl C.ok (mset μ 25 u7) _ _ hM hT r2 t2) gX8_makes_X8_cuts rfl rfl yok_X8_cuts ⟨rfl, rfl⟩ ⟨Nat.le_of_ble_eq_true rfl, Nat.le_of_ble_eq_true rfl⟩ (Nat.le_of_ble_eq_true rfl) ⟨Nat.zero_le _, Nat.zero_le _⟩ dX8_makes_219 (fun r35 μ35 hc35 => ?_)
                      obtain ⟨rfl, hMo, hsm⟩ := hc35
                      refine go_istore6 C (pc := 222) dX8_makes_222 ?_
                      refine go_iload5 C (pc := 224) dX8_makes_224 ?_
                      exact absurd h202 h127
                    · refine go_aload0 C (pc := 205) dX8_makes_205 ?_
                      refine go_iload2 C (pc := 206) dX8_makes_206 ?_
                      refine go_iload4 C (pc := 207) dX8_makes_207 ?_
                      refine go_ciV2 C (pc := 209) obj_25 (c_X8_binds C.fl C.ok (mset μ 25 u7) _ _ hM hT r2 t2) gX8_makes_X8_binds rfl rfl yok_X8_binds ⟨rfl, rfl⟩ ⟨Nat.le_of_ble_eq_true rfl, Nat.le_of_ble_eq_true rfl⟩ (Nat.le_of_ble_eq_true rfl) ⟨Nat.zero_le _, Nat.zero_le _⟩ dX8_makes_209 (fun r36 μ36 hc36 => ?_)
                      obtain ⟨rfl, hMo, hsm⟩ := hc36
                      refine go_goto C (pc := 212) (tgt := 222) dX8_makes_212 (by decide) ?_
                      refine go_istore6 C (pc := 222) dX8_makes_222 ?_
                      refine go_iload5 C (pc := 224) dX8_makes_224 ?_
                      have ha1 : nmN (μ 29) i < n := of_decide_eq_true ((has_dec hn r2).symm.trans (bneg h166))
                      have ha2 : nmN (μ 29) (i + 2) < n := of_decide_eq_true ((has_dec hn t2).symm.trans (bneg h175))
                      have hbt : bt (th (nmN (μ 29) i)) (nmN (μ 29) (i + 2)) = false := by cases y : bt (th (nmN (μ 29) i)) (nmN (μ 29) (i + 2)); rfl; exact absurd ((congrArg b2i y).trans (congrArg b2i (bneg h127)).symm) h186
                      have hg : chgS (μ 29) i (n, pr, th) = (true, (n, pr, tieE th (nmN (μ 29) i) (nmN (μ 29) (i + 2)))) := by rw [chgS, if_neg hn43, if_neg hn33, if_pos hsg]; exact if_pos ⟨ha1, ha2, hne, hbt⟩
                      exact go_zret C hr dX8_makes_226 (by decide) (by rw [hg]; exact ⟨rfl, hMo, hP7.keep hsm (by decide), fun f a b => (congrFun (hsm 25 (by decide)) f).trans (g7 f a b), same_tr (same_ms (f := u7) (L := [25]) same_rf (by decide)) hsm (by decide) (by decide)⟩)
        · refine go_aload0 C (pc := 130) dX8_makes_130 ?_
          refine go_bipush C (pc := 131) (v := 47) (by decide) dX8_makes_131 ?_
          refine go_ciV1 C (pc := 133) obj_25 (c_X8_isNext C.fl C.ok (mset μ 25 u4) _ w (nxI (μ 29) w (nmI (μ 29) w (nxI (μ 29) w (nxI (μ 29) w i false 43) false 33) false 0) (nmB (μ 29) w (nxI (μ 29) w (nxI (μ 29) w i false 43) false 33) false 0) 45) (nmB (μ 29) w (nxI (μ 29) w (nxI (μ 29) w i false 43) false 33) false 0) hP4) gX8_makes_X8_isNext rfl rfl yok_X8_isNext ⟨rfl, rfl⟩ ⟨Nat.le_of_ble_eq_true rfl, Nat.le_of_ble_eq_true rfl⟩ (Nat.le_of_ble_eq_true rfl) ⟨Nat.zero_le _, Nat.zero_le _⟩ dX8_makes_133 (fun r37 μ37 hc37 => ?_)
          obtain ⟨rfl, u5, hm37, e5, f5⟩ := hc37
          rw [mset_mset] at hm37
          subst hm37
          have hP5 : Pa (mset μ 25 u5) w (nxI (μ 29) w (nxI (μ 29) w (nmI (μ 29) w (nxI (μ 29) w (nxI (μ 29) w i false 43) false 33) false 0) (nmB (μ 29) w (nxI (μ 29) w (nxI (μ 29) w i false 43) false 33) false 0) 45) (nmB (μ 29) w (nxI (μ 29) w (nxI (μ 29) w i false 43) false 33) false 0) 47) (nmB (μ 29) w (nxI (μ 29) w (nxI (μ 29) w i false 43) false 33) false 0) := by have := Pa.nx (c := μ 29) hP4 e5 f5; rw [mset_mset] at this; exact this
          have g5 : ∀ f, f ≠ 11 → f ≠ 12 → u5 f = μ 25 f := fun f a b => (f5 f a).trans (g4 f a b)
          refine go_top (y := b2i (nxB (μ 29) w (nxI (μ 29) w (nmI (μ 29) w (nxI (μ 29) w (nxI (μ 29) w i false 43) false 33) false 0) (nmB (μ 29) w (nxI (μ 29) w (nxI (μ 29) w i false 43) false 33) false 0) 45) (nmB (μ 29) w (nxI (μ 29) w (nxI (μ 29) w i false 43) false 33) false 0) 47)) rfl ?_
          refine go_if_ne C (pc := 136) (tgt := 143) dX8_makes_136 (by decide) (fun h136 => ?_) (fun h136 => ?_)
          · refine go_iconst C (pc := 143) (v := 0) (by decide) dX8_makes_143 ?_
            refine go_put C (pc := 144) 25 (by decide) rfl rfl 12 (by decide) rfl hi_X8_makes_RX8 lk_X8_makes_106 tyX8_ok nmX8 rfl (nar_z (by decide)) rfl (Nat.le_of_ble_eq_true rfl) rfl dX8_makes_144 ?_
            refine go_mem (mset_mset μ 25 u5 (upd u5 12 0)) ?_
            have hP6 : Pa (mset μ 25 (upd u5 12 0)) w (nxI (μ 29) w (nxI (μ 29) w (nmI (μ 29) w (nxI (μ 29) w (nxI (μ 29) w i false 43) false 33) false 0) (nmB (μ 29) w (nxI (μ 29) w (nxI (μ 29) w i false 43) false 33) false 0) 45) (nmB (μ 29) w (nxI (μ 29) w (nxI (μ 29) w i false 43) false 33) false 0) 47) false := ⟨hP5.1, hP5.2.1, rfl, hP5.2.2.2.1, hP5.2.2.2.2⟩
            have g6 : ∀ f, f ≠ 11 → f ≠ 12 → upd u5 12 0 f = μ 25 f := fun f a b => (pk_un b).trans (g5 f a b)
            refine go_aload0 C (pc := 147) dX8_makes_147 ?_
            refine go_iload2 C (pc := 148) dX8_makes_148 ?_
            refine go_bipush C (pc := 149) (v := 97) (by decide) dX8_makes_149 ?_
            refine go_iadd C (pc := 151) dX8_makes_151 ?_
            refine go_top (y := nI ((nmN (μ 29) i) + 97)) (by rw [show (97 : Int32) = nI 97 from by decide +kernel, nI_add]) ?_
            refine go_top (y := (nmC (μ 29) w (nxI (μ 29) w (nxI (μ 29) w i false 43) false 33) false - 97 + 97)) (by rw [m97, hC1]; exact r3.symm) ?_
            refine go_ciV1 C (pc := 152) obj_25 (c_X8_name C.fl C.ok _ _ _ _ _ hP6) gX8_makes_X8_name rfl rfl yok_X8_name ⟨rfl, rfl⟩ ⟨Nat.le_of_ble_eq_true rfl, Nat.le_of_ble_eq_true rfl⟩ (Nat.le_of_ble_eq_true rfl) ⟨Nat.zero_le _, Nat.zero_le _⟩ dX8_makes_152 (fun r39 μ39 hc39 => ?_)
            obtain ⟨rfl, u7, hm39, e7, k7, f7⟩ := hc39
            rw [mset_mset] at hm39
            subst hm39
            have hk := mk_3 (bpos h6) (bpos h56) hB1 (bpos h127) (bneg h136)
            rw [hv] at hk
            have hB2 : nmB (μ 29) w (nxI (μ 29) w (nxI (μ 29) w (nmI (μ 29) w (nxI (μ 29) w (nxI (μ 29) w i false 43) false 33) false 0) (nmB (μ 29) w (nxI (μ 29) w (nxI (μ 29) w i false 43) false 33) false 0) 45) (nmB (μ 29) w (nxI (μ 29) w (nxI (μ 29) w i false 43) false 33) false 0) 47) false (nmC (μ 29) w (nxI (μ 29) w (nxI (μ 29) w i false 43) false 33) false - 97 + 97) = false := (congrArg Prod.snd hk).symm
            obtain ⟨s1, s2, s3, s4, s5⟩ := nm_f hB2
            have hI2 : (nxI (μ 29) w (nxI (μ 29) w (nmI (μ 29) w (nxI (μ 29) w (nxI (μ 29) w i false 43) false 33) false 0) (nmB (μ 29) w (nxI (μ 29) w (nxI (μ 29) w i false 43) false 33) false 0) 45) (nmB (μ 29) w (nxI (μ 29) w (nxI (μ 29) w i false 43) false 33) false 0) 47) = i + 2 := by rw [nx_t (bneg h136), nx_f (bpos h127), q1, hI1]
            have hC2 : nmC (μ 29) w (nxI (μ 29) w (nxI (μ 29) w (nmI (μ 29) w (nxI (μ 29) w (nxI (μ 29) w i false 43) false 33) false 0) (nmB (μ 29) w (nxI (μ 29) w (nxI (μ 29) w i false 43) false 33) false 0) 45) (nmB (μ 29) w (nxI (μ 29) w (nxI (μ 29) w i false 43) false 33) false 0) 47) false = μ 29 (i + 2) := s5.trans (by rw [hI2])
            rw [hI2] at s3 s4
            rw [hC1, m97] at s4
            obtain ⟨t1, t2, t3⟩ := nm_ok s3
            have hne : nmN (μ 29) i ≠ nmN (μ 29) (i + 2) := fun y => s4 (by rw [t3, r3, y])
            have hsg : ¬ μ 29 (i + 1) = 45 := by have y := (nx_lt (bneg h136)).2.1; rw [nx_f (bpos h127), q1, hI1] at y; rw [y]; decide
            have hP7 : Pa (mset μ 25 u7) w z false := by have hh := Pa.nm (c := μ 29) hP6 e7 k7 f7; rw [mset_mset] at hh; exact Pa_eq hh (congrArg Prod.fst hk) hB2
            have g7 : ∀ f, f ≠ 11 → f ≠ 12 → u7 f = μ 25 f := fun f a b => (f7 f a b).trans (g6 f a b)
            refine go_top (y := nI (nmN (μ 29) (i + 2))) ((congrArg (· - 97) hC2).trans t1) ?_
            refine go_istore4 C (pc := 155) dX8_makes_155 ?_
            refine go_iload1 C (pc := 157) dX8_makes_157 ?_
            refine go_if_eq C (pc := 158) (tgt := 193) dX8_makes_158 (by decide) (fun h158 => ?_) (fun h158 => ?_)
            · refine go_iconst C (pc := 193) (v := 0) (by decide) dX8_makes_193 ?_
              refine go_istore5 C (pc := 194) dX8_makes_194 ?_
              refine go_iload5 C (pc := 196) dX8_makes_196 ?_
              refine go_if_eq C (pc := 198) (tgt := 224) dX8_makes_198 (by decide) (fun h198 => ?_) (fun h198 => ?_)
              · refine go_iload5 C (pc := 224) dX8_makes_224 ?_
                exact absurd (show (1 : Int32) = 0 from h158) (by decide)
              · refine go_iload3 C (pc := 201) dX8_makes_201 ?_
                refine go_if_eq C (pc := 202) (tgt := 215) dX8_makes_202 (by decide) (fun h202 => ?_) (fun h202 => ?_)
                · refine go_aload0 C (pc := 215) dX8_makes_215 ?_
                  refine go_iload2 C (pc := 216) dX8_makes_216 ?_
                  refine go_iload4 C (pc := 217) dX8_makes_217 ?_
                  refine go_ciV2 C (pc := 219) obj_25 (c_X8_cuts C.fl C.ok (mset μ 25 u7) _ _ hM hT r2 t2) gX8_makes_X8_cuts rfl rfl yok_X8_cuts ⟨rfl, rfl⟩ ⟨Nat.le_of_ble_eq_true rfl, Nat.le_of_ble_eq_true rfl⟩ (Nat.le_of_ble_eq_true rfl) ⟨Nat.zero_le _, Nat.zero_le _⟩ dX8_makes_219 (fun r43 μ43 hc43 => ?_)
                  obtain ⟨rfl, hMo, hsm⟩ := hc43
                  refine go_istore6 C (pc := 222) dX8_makes_222 ?_
                  refine go_iload5 C (pc := 224) dX8_makes_224 ?_
                  exact absurd (show (1 : Int32) = 0 from h158) (by decide)
                · refine go_aload0 C (pc := 205) dX8_makes_205 ?_
                  refine go_iload2 C (pc := 206) dX8_makes_206 ?_
                  refine go_iload4 C (pc := 207) dX8_makes_207 ?_
                  refine go_ciV2 C (pc := 209) obj_25 (c_X8_binds C.fl C.ok (mset μ 25 u7) _ _ hM hT r2 t2) gX8_makes_X8_binds rfl rfl yok_X8_binds ⟨rfl, rfl⟩ ⟨Nat.le_of_ble_eq_true rfl, Nat.le_of_ble_eq_true rfl⟩ (Nat.le_of_ble_eq_true rfl) ⟨Nat.zero_le _, Nat.zero_le _⟩ dX8_makes_209 (fun r44 μ44 hc44 => ?_)
                  obtain ⟨rfl, hMo, hsm⟩ := hc44
                  refine go_goto C (pc := 212) (tgt := 222) dX8_makes_212 (by decide) ?_
                  refine go_istore6 C (pc := 222) dX8_makes_222 ?_
                  refine go_iload5 C (pc := 224) dX8_makes_224 ?_
                  exact absurd (show (1 : Int32) = 0 from h158) (by decide)
            · refine go_aload0 C (pc := 161) dX8_makes_161 ?_
              refine go_iload2 C (pc := 162) dX8_makes_162 ?_
              refine go_ciV1 C (pc := 163) obj_25 (c_X8_isPlant C.fl C.ok (mset μ 25 u7) _ hM hT) gX8_makes_X8_isPlant rfl rfl yok_X8_isPlant ⟨rfl, rfl⟩ ⟨Nat.le_of_ble_eq_true rfl, Nat.le_of_ble_eq_true rfl⟩ (Nat.le_of_ble_eq_true rfl) ⟨Nat.zero_le _, Nat.zero_le _⟩ dX8_makes_163 (fun r45 μ45 hc45 => ?_)
              obtain ⟨rfl, hm45⟩ := hc45
              replace hm45 := hm45.symm
              subst hm45
              refine go_if_eq C (pc := 166) (tgt := 193) dX8_makes_166 (by decide) (fun h166 => ?_) (fun h166 => ?_)
              · refine go_iconst C (pc := 193) (v := 0) (by decide) dX8_makes_193 ?_
                refine go_istore5 C (pc := 194) dX8_makes_194 ?_
                refine go_iload5 C (pc := 196) dX8_makes_196 ?_
                refine go_if_eq C (pc := 198) (tgt := 224) dX8_makes_198 (by decide) (fun h198 => ?_) (fun h198 => ?_)
                · refine go_iload5 C (pc := 224) dX8_makes_224 ?_
                  have ha1 : ¬ nmN (μ 29) i < n := of_decide_eq_false ((has_dec hn r2).symm.trans (bpos h166))
                  have hg : chgS (μ 29) i (n, pr, th) = (false, (n, pr, th)) := by rw [chgS, if_neg hn43, if_neg hn33, if_neg hsg]; exact if_neg (fun y => ha1 (hT.2.2.1 _ _ r2 y).1)
                  exact go_zret C hr dX8_makes_226 (by decide) (by rw [hg]; exact ⟨rfl, hM, hP7, g7, (by repeat' (first | exact same_rf | refine same_ms ?_ (by decide)))⟩)
                · refine go_iload3 C (pc := 201) dX8_makes_201 ?_
                  refine go_if_eq C (pc := 202) (tgt := 215) dX8_makes_202 (by decide) (fun h202 => ?_) (fun h202 => ?_)
                  · refine go_aload0 C (pc := 215) dX8_makes_215 ?_
                    refine go_iload2 C (pc := 216) dX8_makes_216 ?_
                    refine go_iload4 C (pc := 217) dX8_makes_217 ?_
                    refine go_ciV2 C (pc := 219) obj_25 (c_X8_cuts C.fl C.ok (mset μ 25 u7) _ _ hM hT r2 t2) gX8_makes_X8_cuts rfl rfl yok_X8_cuts ⟨rfl, rfl⟩ ⟨Nat.le_of_ble_eq_true rfl, Nat.le_of_ble_eq_true rfl⟩ (Nat.le_of_ble_eq_true rfl) ⟨Nat.zero_le _, Nat.zero_le _⟩ dX8_makes_219 (fun r49 μ49 hc49 => ?_)
                    obtain ⟨rfl, hMo, hsm⟩ := hc49
                    refine go_istore6 C (pc := 222) dX8_makes_222 ?_
                    refine go_iload5 C (pc := 224) dX8_makes_224 ?_
                    exact absurd rfl (show ¬ (0 : Int32) = 0 from h198)
                  · refine go_aload0 C (pc := 205) dX8_makes_205 ?_
                    refine go_iload2 C (pc := 206) dX8_makes_206 ?_
                    refine go_iload4 C (pc := 207) dX8_makes_207 ?_
                    refine go_ciV2 C (pc := 209) obj_25 (c_X8_binds C.fl C.ok (mset μ 25 u7) _ _ hM hT r2 t2) gX8_makes_X8_binds rfl rfl yok_X8_binds ⟨rfl, rfl⟩ ⟨Nat.le_of_ble_eq_true rfl, Nat.le_of_ble_eq_true rfl⟩ (Nat.le_of_ble_eq_true rfl) ⟨Nat.zero_le _, Nat.zero_le _⟩ dX8_makes_209 (fun r50 μ50 hc50 => ?_)
                    obtain ⟨rfl, hMo, hsm⟩ := hc50
                    refine go_goto C (pc := 212) (tgt := 222) dX8_makes_212 (by decide) ?_
                    refine go_istore6 C (pc := 222) dX8_makes_222 ?_
                    refine go_iload5 C (pc := 224) dX8_makes_224 ?_
                    exact absurd rfl (show ¬ (0 : Int32) = 0 from h198)
              · refine go_aload0 C (pc := 169) dX8_makes_169 ?_
                refine go_iload4 C (pc := 170) dX8_makes_170 ?_
                refine go_ciV1 C (pc := 172) obj_25 (c_X8_isPlant C.fl C.ok (mset μ 25 u7) _ hM hT) gX8_makes_X8_isPlant rfl rfl yok_X8_isPlant ⟨rfl, rfl⟩ ⟨Nat.le_of_ble_eq_true rfl, Nat.le_of_ble_eq_true rfl⟩ (Nat.le_of_ble_eq_true rfl) ⟨Nat.zero_le _, Nat.zero_le _⟩ dX8_makes_172 (fun r51 μ51 hc51 => ?_)
                obtain ⟨rfl, hm51⟩ := hc51
                replace hm51 := hm51.symm
                subst hm51
                refine go_if_eq C (pc := 175) (tgt := 193) dX8_makes_175 (by decide) (fun h175 => ?_) (fun h175 => ?_)
                · refine go_iconst C (pc := 193) (v := 0) (by decide) dX8_makes_193 ?_
                  refine go_istore5 C (pc := 194) dX8_makes_194 ?_
                  refine go_iload5 C (pc := 196) dX8_makes_196 ?_
                  refine go_if_eq C (pc := 198) (tgt := 224) dX8_makes_198 (by decide) (fun h198 => ?_) (fun h198 => ?_)
                  · refine go_iload5 C (pc := 224) dX8_makes_224 ?_
                    have ha2 : ¬ nmN (μ 29) (i + 2) < n := of_decide_eq_false ((has_dec hn t2).symm.trans (bpos h175))
                    have hg : chgS (μ 29) i (n, pr, th) = (false, (n, pr, th)) := by rw [chgS, if_neg hn43, if_neg hn33, if_neg hsg]; exact if_neg (fun y => ha2 (hT.2.2.1 _ _ r2 y).2.1)
                    exact go_zret C hr dX8_makes_226 (by decide) (by rw [hg]; exact ⟨rfl, hM, hP7, g7, (by repeat' (first | exact same_rf | refine same_ms ?_ (by decide)))⟩)
                  · refine go_iload3 C (pc := 201) dX8_makes_201 ?_
                    refine go_if_eq C (pc := 202) (tgt := 215) dX8_makes_202 (by decide) (fun h202 => ?_) (fun h202 => ?_)
                    · refine go_aload0 C (pc := 215) dX8_makes_215 ?_
                      refine go_iload2 C (pc := 216) dX8_makes_216 ?_
                      refine go_iload4 C (pc := 217) dX8_makes_217 ?_
                      refine go_ciV2 C (pc := 219) obj_25 (c_X8_cuts C.fl C.ok (mset μ 25 u7) _ _ hM hT r2 t2) gX8_makes_X8_cuts rfl rfl yok_X8_cuts ⟨rfl, rfl⟩ ⟨Nat.le_of_ble_eq_true rfl, Nat.le_of_ble_eq_true rfl⟩ (Nat.le_of_ble_eq_true rfl) ⟨Nat.zero_le _, Nat.zero_le _⟩ dX8_makes_219 (fun r55 μ55 hc55 => ?_)
                      obtain ⟨rfl, hMo, hsm⟩ := hc55
                      refine go_istore6 C (pc := 222) dX8_makes_222 ?_
                      refine go_iload5 C (pc := 224) dX8_makes_224 ?_
                      exact absurd rfl (show ¬ (0 : Int32) = 0 from h198)
                    · refine go_aload0 C (pc := 205) dX8_makes_205 ?_
                      refine go_iload2 C (pc := 206) dX8_makes_206 ?_
                      refine go_iload4 C (pc := 207) dX8_makes_207 ?_
                      refine go_ciV2 C (pc := 209) obj_25 (c_X8_binds C.fl C.ok (mset μ 25 u7) _ _ hM hT r2 t2) gX8_makes_X8_binds rfl rfl yok_X8_binds ⟨rfl, rfl⟩ ⟨Nat.le_of_ble_eq_true rfl, Nat.le_of_ble_eq_true rfl⟩ (Nat.le_of_ble_eq_true rfl) ⟨Nat.zero_le _, Nat.zero_le _⟩ dX8_makes_209 (fun r56 μ56 hc56 => ?_)
                      obtain ⟨rfl, hMo, hsm⟩ := hc56
                      refine go_goto C (pc := 212) (tgt := 222) dX8_makes_212 (by decide) ?_
                      refine go_istore6 C (pc := 222) dX8_makes_222 ?_
                      refine go_iload5 C (pc := 224) dX8_makes_224 ?_
                      exact absurd rfl (show ¬ (0 : Int32) = 0 from h198)
                · refine go_aload0 C (pc := 178) dX8_makes_178 ?_
                  refine go_iload2 C (pc := 179) dX8_makes_179 ?_
                  refine go_iload4 C (pc := 180) dX8_makes_180 ?_
                  refine go_ciV2 C (pc := 182) obj_25 (c_X8_areBound C.fl C.ok (mset μ 25 u7) _ _ hM hT r2 (by omega)) gX8_makes_X8_areBound rfl rfl yok_X8_areBound ⟨rfl, rfl⟩ ⟨Nat.le_of_ble_eq_true rfl, Nat.le_of_ble_eq_true rfl⟩ (Nat.le_of_ble_eq_true rfl) ⟨Nat.zero_le _, Nat.zero_le _⟩ dX8_makes_182 (fun r57 μ57 hc57 => ?_)
                  obtain ⟨rfl, hm57⟩ := hc57
                  replace hm57 := hm57.symm
                  subst hm57
                  refine go_iload3 C (pc := 185) dX8_makes_185 ?_
                  refine go_icmp_eq C (pc := 186) (tgt := 193) dX8_makes_186 (by decide) (fun h186 => ?_) (fun h186 => ?_)
                  · refine go_iconst C (pc := 193) (v := 0) (by decide) dX8_makes_193 ?_
                    refine go_istore5 C (pc := 194) dX8_makes_194 ?_
                    refine go_iload5 C (pc := 196) dX8_makes_196 ?_
                    refine go_if_eq C (pc := 198) (tgt := 224) dX8_makes_198 (by decide) (fun h198 => ?_) (fun h198 => ?_)
                    · refine go_iload5 C (pc := 224) dX8_makes_224 ?_
                      have hbt := b2i_inj h186
                      have hg : chgS (μ 29) i (n, pr, th) = (false, (n, pr, th)) := by rw [chgS, if_neg hn43, if_neg hn33, if_neg hsg]; exact if_neg (fun y => by rw [hbt, bpos h127] at y; exact absurd y (by decide))
                      exact go_zret C hr dX8_makes_226 (by decide) (by rw [hg]; exact ⟨rfl, hM, hP7, g7, (by repeat' (first | exact same_rf | refine same_ms ?_ (by decide)))⟩)
                    · refine go_iload3 C (pc := 201) dX8_makes_201 ?_
                      refine go_if_eq C (pc := 202) (tgt := 215) dX8_makes_202 (by decide) (fun h202 => ?_) (fun h202 => ?_)
                      · refine go_aload0 C (pc := 215) dX8_makes_215 ?_
                        refine go_iload2 C (pc := 216) dX8_makes_216 ?_
                        refine go_iload4 C (pc := 217) dX8_makes_217 ?_
                        refine go_ciV2 C (pc := 219) obj_25 (c_X8_cuts C.fl C.ok (mset μ 25 u7) _ _ hM hT r2 t2) gX8_makes_X8_cuts rfl rfl yok_X8_cuts ⟨rfl, rfl⟩ ⟨Nat.le_of_ble_eq_true rfl, Nat.le_of_ble_eq_true rfl⟩ (Nat.le_of_ble_eq_true rfl) ⟨Nat.zero_le _, Nat.zero_le _⟩ dX8_makes_219 (fun r61 μ61 hc61 => ?_)
                        obtain ⟨rfl, hMo, hsm⟩ := hc61
                        refine go_istore6 C (pc := 222) dX8_makes_222 ?_
                        refine go_iload5 C (pc := 224) dX8_makes_224 ?_
                        exact absurd rfl (show ¬ (0 : Int32) = 0 from h198)
                      · refine go_aload0 C (pc := 205) dX8_makes_205 ?_
                        refine go_iload2 C (pc := 206) dX8_makes_206 ?_
                        refine go_iload4 C (pc := 207) dX8_makes_207 ?_
                        refine go_ciV2 C (pc := 209) obj_25 (c_X8_binds C.fl C.ok (mset μ 25 u7) _ _ hM hT r2 t2) gX8_makes_X8_binds rfl rfl yok_X8_binds ⟨rfl, rfl⟩ ⟨Nat.le_of_ble_eq_true rfl, Nat.le_of_ble_eq_true rfl⟩ (Nat.le_of_ble_eq_true rfl) ⟨Nat.zero_le _, Nat.zero_le _⟩ dX8_makes_209 (fun r62 μ62 hc62 => ?_)
                        obtain ⟨rfl, hMo, hsm⟩ := hc62
                        refine go_goto C (pc := 212) (tgt := 222) dX8_makes_212 (by decide) ?_
                        refine go_istore6 C (pc := 222) dX8_makes_222 ?_
                        refine go_iload5 C (pc := 224) dX8_makes_224 ?_
                        exact absurd rfl (show ¬ (0 : Int32) = 0 from h198)
                  · refine go_iconst C (pc := 189) (v := 1) (by decide) dX8_makes_189 ?_
                    refine go_goto C (pc := 190) (tgt := 194) dX8_makes_190 (by decide) ?_
                    refine go_istore5 C (pc := 194) dX8_makes_194 ?_
                    refine go_iload5 C (pc := 196) dX8_makes_196 ?_
                    refine go_if_eq C (pc := 198) (tgt := 224) dX8_makes_198 (by decide) (fun h198 => ?_) (fun h198 => ?_)
                    · refine go_iload5 C (pc := 224) dX8_makes_224 ?_
                      exact absurd (show (1 : Int32) = 0 from h198) (by decide)
                    · refine go_iload3 C (pc := 201) dX8_makes_201 ?_
                      refine go_if_eq C (pc := 202) (tgt := 215) dX8_makes_202 (by decide) (fun h202 => ?_) (fun h202 => ?_)
                      · refine go_aload0 C (pc := 215) dX8_makes_215 ?_
                        refine go_iload2 C (pc := 216) dX8_makes_216 ?_
                        refine go_iload4 C (pc := 217) dX8_makes_217 ?_
                        refine go_ciV2 C (pc := 219) obj_25 (c_X8_cuts C.fl C.ok (mset μ 25 u7) _ _ hM hT r2 t2) gX8_makes_X8_cuts rfl rfl yok_X8_cuts ⟨rfl, rfl⟩ ⟨Nat.le_of_ble_eq_true rfl, Nat.le_of_ble_eq_true rfl⟩ (Nat.le_of_ble_eq_true rfl) ⟨Nat.zero_le _, Nat.zero_le _⟩ dX8_makes_219 (fun r65 μ65 hc65 => ?_)
                        obtain ⟨rfl, hMo, hsm⟩ := hc65
                        refine go_istore6 C (pc := 222) dX8_makes_222 ?_
                        refine go_iload5 C (pc := 224) dX8_makes_224 ?_
                        have ha1 : nmN (μ 29) i < n := of_decide_eq_true ((has_dec hn r2).symm.trans (bneg h166))
                        have ha2 : nmN (μ 29) (i + 2) < n := of_decide_eq_true ((has_dec hn t2).symm.trans (bneg h175))
                        have hbt : bt (th (nmN (μ 29) i)) (nmN (μ 29) (i + 2)) = true := by cases y : bt (th (nmN (μ 29) i)) (nmN (μ 29) (i + 2)); exact absurd ((congrArg b2i y).trans (congrArg b2i (bpos h127)).symm) h186; rfl
                        have hg : chgS (μ 29) i (n, pr, th) = (true, (n, pr, untE th (nmN (μ 29) i) (nmN (μ 29) (i + 2)))) := by rw [chgS, if_neg hn43, if_neg hn33, if_neg hsg]; exact if_pos hbt
                        exact go_zret C hr dX8_makes_226 (by decide) (by rw [hg]; exact ⟨rfl, hMo, hP7.keep hsm (by decide), fun f a b => (congrFun (hsm 25 (by decide)) f).trans (g7 f a b), same_tr (same_ms (f := u7) (L := [25]) same_rf (by decide)) hsm (by decide) (by decide)⟩)
                      · refine go_aload0 C (pc := 205) dX8_makes_205 ?_
                        refine go_iload2 C (pc := 206) dX8_makes_206 ?_
                        refine go_iload4 C (pc := 207) dX8_makes_207 ?_
                        refine go_ciV2 C (pc := 209) obj_25 (c_X8_binds C.fl C.ok (mset μ 25 u7) _ _ hM hT r2 t2) gX8_makes_X8_binds rfl rfl yok_X8_binds ⟨rfl, rfl⟩ ⟨Nat.le_of_ble_eq_true rfl, Nat.le_of_ble_eq_true rfl⟩ (Nat.le_of_ble_eq_true rfl) ⟨Nat.zero_le _, Nat.zero_le _⟩ dX8_makes_209 (fun r66 μ66 hc66 => ?_)
                        obtain ⟨rfl, hMo, hsm⟩ := hc66
                        refine go_goto C (pc := 212) (tgt := 222) dX8_makes_212 (by decide) ?_
                        refine go_istore6 C (pc := 222) dX8_makes_222 ?_
                        refine go_iload5 C (pc := 224) dX8_makes_224 ?_
                        exact absurd h127 h202
          · exact ft (congrArg Prod.snd (hv.symm.trans (mk_4 (bpos h6) (bpos h56) hB1 (bpos h127) (bpos h136) 0)))
    · refine go_aload0 C (pc := 59) dX8_makes_59 ?_
      refine go_iconst C (pc := 60) (v := 0) (by decide) dX8_makes_60 ?_
      refine go_ciV1 C (pc := 61) obj_25 (c_X8_name C.fl C.ok (mset μ 25 u2) _ w (nxI (μ 29) w (nxI (μ 29) w i false 43) false 33) false hP2) gX8_makes_X8_name rfl rfl yok_X8_name ⟨rfl, rfl⟩ ⟨Nat.le_of_ble_eq_true rfl, Nat.le_of_ble_eq_true rfl⟩ (Nat.le_of_ble_eq_true rfl) ⟨Nat.zero_le _, Nat.zero_le _⟩ dX8_makes_61 (fun r67 μ67 hc67 => ?_)
      obtain ⟨rfl, u3, hm67, e3, k3, f3⟩ := hc67
      rw [mset_mset] at hm67
      subst hm67
      have hk := mk_bang (bpos h6) (bneg h56)
      rw [hv] at hk
      have hB1 : nmB (μ 29) w (nxI (μ 29) w (nxI (μ 29) w i false 43) false 33) false 0 = false := (congrArg Prod.snd hk).symm
      obtain ⟨q1, q2, q3, q4, q5⟩ := nm_f hB1
      have hI1 : (nxI (μ 29) w (nxI (μ 29) w i false 43) false 33) = i + 1 := by rw [nx_t (bneg h56), nx_f (bpos h6)]
      rw [hI1] at q3 q5
      obtain ⟨r1, r2, r3⟩ := nm_ok q3
      have hP3 : Pa (mset μ 25 u3) w z false := by have hh := Pa.nm (c := μ 29) hP2 e3 k3 f3; rw [mset_mset] at hh; exact Pa_eq hh (congrArg Prod.fst hk) hB1
      refine go_top (y := nI (nmN (μ 29) (i + 1))) ((congrArg (· - 97) (show nmC (μ 29) w (nxI (μ 29) w (nxI (μ 29) w i false 43) false 33) false = μ 29 (i + 1) from by rw [hI1]; exact q5)).trans r1) ?_
      refine go_istore2 C (pc := 64) dX8_makes_64 ?_
      refine go_iload1 C (pc := 65) dX8_makes_65 ?_
      refine go_if_eq C (pc := 66) (tgt := 81) dX8_makes_66 (by decide) (fun h66 => ?_) (fun h66 => ?_)
      · refine go_iconst C (pc := 81) (v := 0) (by decide) dX8_makes_81 ?_
        refine go_istore3 C (pc := 82) dX8_makes_82 ?_
        refine go_aload0 C (pc := 83) dX8_makes_83 ?_
        refine go_get C (pc := 84) 25 (by decide) rfl rfl 0 (by decide) rfl rfl hi_X8_makes_RX8 lk_X8_makes_7 dX8_makes_84 ?_
        refine go_iconst C (pc := 87) (v := 1) (by decide) dX8_makes_87 ?_
        refine go_dup2 C (pc := 88) rfl rfl dX8_makes_88 ?_
        refine go_top (y := nI 1) (by first | rfl | decide +kernel) ?_
        refine go_ialdN C (pc := 89) arr_26 (i := 1) (by omega) dX8_makes_89 ?_
        refine go_top (y := pr) hs1 ?_
        refine go_iload3 C (pc := 90) dX8_makes_90 ?_
        refine go_if_eq C (pc := 91) (tgt := 100) dX8_makes_91 (by decide) (fun h91 => ?_) (fun h91 => ?_)
        · refine go_iconst C (pc := 100) (v := 0) (by decide) dX8_makes_100 ?_
          refine go_ixor C (pc := 101) dX8_makes_101 ?_
          refine go_iastC C (pc := 102) arr_26 (i := 1) (by first | rfl | decide +kernel) (by omega) dX8_makes_102 ?_
          refine go_iload3 C (pc := 103) dX8_makes_103 ?_
          exact absurd (show (1 : Int32) = 0 from h66) (by decide)
        · refine go_iconst C (pc := 94) (v := 1) (by decide) dX8_makes_94 ?_
          refine go_iload2 C (pc := 95) dX8_makes_95 ?_
          refine go_ishl C (pc := 96) dX8_makes_96 ?_
          refine go_goto C (pc := 97) (tgt := 101) dX8_makes_97 (by decide) ?_
          refine go_ixor C (pc := 101) dX8_makes_101 ?_
          refine go_iastC C (pc := 102) arr_26 (i := 1) (by first | rfl | decide +kernel) (by omega) dX8_makes_102 ?_
          refine go_iload3 C (pc := 103) dX8_makes_103 ?_
          exact absurd (show (1 : Int32) = 0 from h66) (by decide)
      · refine go_aload0 C (pc := 69) dX8_makes_69 ?_
        refine go_iload2 C (pc := 70) dX8_makes_70 ?_
        refine go_ciV1 C (pc := 71) obj_25 (c_X8_isPlant C.fl C.ok (mset μ 25 u3) _ hM hT) gX8_makes_X8_isPlant rfl rfl yok_X8_isPlant ⟨rfl, rfl⟩ ⟨Nat.le_of_ble_eq_true rfl, Nat.le_of_ble_eq_true rfl⟩ (Nat.le_of_ble_eq_true rfl) ⟨Nat.zero_le _, Nat.zero_le _⟩ dX8_makes_71 (fun r70 μ70 hc70 => ?_)
        obtain ⟨rfl, hm70⟩ := hc70
        replace hm70 := hm70.symm
        subst hm70
        refine go_if_eq C (pc := 74) (tgt := 81) dX8_makes_74 (by decide) (fun h74 => ?_) (fun h74 => ?_)
        · refine go_iconst C (pc := 81) (v := 0) (by decide) dX8_makes_81 ?_
          refine go_istore3 C (pc := 82) dX8_makes_82 ?_
          refine go_aload0 C (pc := 83) dX8_makes_83 ?_
          refine go_get C (pc := 84) 25 (by decide) rfl rfl 0 (by decide) rfl rfl hi_X8_makes_RX8 lk_X8_makes_7 dX8_makes_84 ?_
          refine go_iconst C (pc := 87) (v := 1) (by decide) dX8_makes_87 ?_
          refine go_dup2 C (pc := 88) rfl rfl dX8_makes_88 ?_
          refine go_top (y := nI 1) (by first | rfl | decide +kernel) ?_
          refine go_ialdN C (pc := 89) arr_26 (i := 1) (by omega) dX8_makes_89 ?_
          refine go_top (y := pr) hs1 ?_
          refine go_iload3 C (pc := 90) dX8_makes_90 ?_
          refine go_if_eq C (pc := 91) (tgt := 100) dX8_makes_91 (by decide) (fun h91 => ?_) (fun h91 => ?_)
          · refine go_iconst C (pc := 100) (v := 0) (by decide) dX8_makes_100 ?_
            refine go_ixor C (pc := 101) dX8_makes_101 ?_
            refine go_iastC C (pc := 102) arr_26 (i := 1) (by first | rfl | decide +kernel) (by omega) dX8_makes_102 ?_
            refine go_iload3 C (pc := 103) dX8_makes_103 ?_
            have h33 := nx_lt (bneg h56)
            rw [nx_f (bpos h6)] at h33
            have hn43 : ¬ μ 29 i = 43 := fun y => by rw [h33.2.1] at y; exact absurd y (by decide)
            have hlt : ¬ nmN (μ 29) (i + 1) < n := of_decide_eq_false ((has_dec hn r2).symm.trans (bpos h74))
            have hg : chgS (μ 29) i (n, pr, th) = (false, (n, pr, th)) := by rw [chgS, if_neg hn43, if_pos h33.2.1]; exact if_neg hlt
            exact go_zret C hr dX8_makes_104 (by decide) (by rw [hg]; exact ⟨rfl, ⟨hs0, Int32.xor_zero, fun a ha => (pk_un (by omega)).trans (hth a ha)⟩, hP3, fun f a b => (f3 f a b).trans (g2 f a b), (by repeat' (first | exact same_rf | refine same_ms ?_ (by decide)))⟩)
          · refine go_iconst C (pc := 94) (v := 1) (by decide) dX8_makes_94 ?_
            refine go_iload2 C (pc := 95) dX8_makes_95 ?_
            refine go_ishl C (pc := 96) dX8_makes_96 ?_
            refine go_goto C (pc := 97) (tgt := 101) dX8_makes_97 (by decide) ?_
            refine go_ixor C (pc := 101) dX8_makes_101 ?_
            refine go_iastC C (pc := 102) arr_26 (i := 1) (by first | rfl | decide +kernel) (by omega) dX8_makes_102 ?_
            refine go_iload3 C (pc := 103) dX8_makes_103 ?_
            exact absurd rfl (show ¬ (0 : Int32) = 0 from h91)
        · refine go_iconst C (pc := 77) (v := 1) (by decide) dX8_makes_77 ?_
          refine go_goto C (pc := 78) (tgt := 82) dX8_makes_78 (by decide) ?_
          refine go_istore3 C (pc := 82) dX8_makes_82 ?_
          refine go_aload0 C (pc := 83) dX8_makes_83 ?_
          refine go_get C (pc := 84) 25 (by decide) rfl rfl 0 (by decide) rfl rfl hi_X8_makes_RX8 lk_X8_makes_7 dX8_makes_84 ?_
          refine go_iconst C (pc := 87) (v := 1) (by decide) dX8_makes_87 ?_
          refine go_dup2 C (pc := 88) rfl rfl dX8_makes_88 ?_
          refine go_top (y := nI 1) (by first | rfl | decide +kernel) ?_
          refine go_ialdN C (pc := 89) arr_26 (i := 1) (by omega) dX8_makes_89 ?_
          refine go_top (y := pr) hs1 ?_
          refine go_iload3 C (pc := 90) dX8_makes_90 ?_
          refine go_if_eq C (pc := 91) (tgt := 100) dX8_makes_91 (by decide) (fun h91 => ?_) (fun h91 => ?_)
          · refine go_iconst C (pc := 100) (v := 0) (by decide) dX8_makes_100 ?_
            refine go_ixor C (pc := 101) dX8_makes_101 ?_
            refine go_iastC C (pc := 102) arr_26 (i := 1) (by first | rfl | decide +kernel) (by omega) dX8_makes_102 ?_
            refine go_iload3 C (pc := 103) dX8_makes_103 ?_
            exact absurd (show (1 : Int32) = 0 from h91) (by decide)
          · refine go_iconst C (pc := 94) (v := 1) (by decide) dX8_makes_94 ?_
            refine go_iload2 C (pc := 95) dX8_makes_95 ?_
            refine go_ishl C (pc := 96) dX8_makes_96 ?_
            refine go_goto C (pc := 97) (tgt := 101) dX8_makes_97 (by decide) ?_
            refine go_ixor C (pc := 101) dX8_makes_101 ?_
            refine go_iastC C (pc := 102) arr_26 (i := 1) (by first | rfl | decide +kernel) (by omega) dX8_makes_102 ?_
            refine go_iload3 C (pc := 103) dX8_makes_103 ?_
            have h33 := nx_lt (bneg h56)
            rw [nx_f (bpos h6)] at h33
            have hn43 : ¬ μ 29 i = 43 := fun y => by rw [h33.2.1] at y; exact absurd y (by decide)
            have hlt : nmN (μ 29) (i + 1) < n := of_decide_eq_true ((has_dec hn r2).symm.trans (bneg h74))
            have hg : chgS (μ 29) i (n, pr, th) = (true, (n, pr ^^^ bitI (nI (nmN (μ 29) (i + 1))), th)) := by rw [chgS, if_neg hn43, if_pos h33.2.1]; exact if_pos hlt
            exact go_zret C hr dX8_makes_104 (by decide) (by rw [hg]; exact ⟨rfl, ⟨hs0, rfl, fun a ha => (pk_un (by omega)).trans (hth a ha)⟩, hP3, fun f a b => (f3 f a b).trans (g2 f a b), (by repeat' (first | exact same_rf | refine same_ms ?_ (by decide)))⟩)
  · refine go_iload1 C (pc := 9) dX8_makes_9 ?_
    refine go_if_eq C (pc := 10) (tgt := 28) dX8_makes_10 (by decide) (fun h10 => ?_) (fun h10 => ?_)
    · refine go_iconst C (pc := 28) (v := 0) (by decide) dX8_makes_28 ?_
      refine go_istore2 C (pc := 29) dX8_makes_29 ?_
      refine go_aload0 C (pc := 30) dX8_makes_30 ?_
      refine go_get C (pc := 31) 25 (by decide) rfl rfl 0 (by decide) rfl rfl hi_X8_makes_RX8 lk_X8_makes_7 dX8_makes_31 ?_
      refine go_iconst C (pc := 34) (v := 0) (by decide) dX8_makes_34 ?_
      refine go_dup2 C (pc := 35) rfl rfl dX8_makes_35 ?_
      refine go_top (y := nI 0) (by first | rfl | decide +kernel) ?_
      refine go_ialdN C (pc := 36) arr_26 (i := 0) (by omega) dX8_makes_36 ?_
      refine go_top (y := nI n) hs0 ?_
      refine go_iload2 C (pc := 37) dX8_makes_37 ?_
      refine go_if_eq C (pc := 38) (tgt := 45) dX8_makes_38 (by decide) (fun h38 => ?_) (fun h38 => ?_)
      · refine go_iconst C (pc := 45) (v := 0) (by decide) dX8_makes_45 ?_
        refine go_iadd C (pc := 46) dX8_makes_46 ?_
        refine go_top (y := nI (n + 0)) (by rw [show (0 : Int32) = nI 0 from by decide +kernel, nI_add]) ?_
        refine go_iastC C (pc := 47) arr_26 (i := 0) (by first | rfl | decide +kernel) (by omega) dX8_makes_47 ?_
        refine go_iload2 C (pc := 48) dX8_makes_48 ?_
        exact absurd (show (1 : Int32) = 0 from h10) (by decide)
      · refine go_iconst C (pc := 41) (v := 1) (by decide) dX8_makes_41 ?_
        refine go_goto C (pc := 42) (tgt := 46) dX8_makes_42 (by decide) ?_
        refine go_iadd C (pc := 46) dX8_makes_46 ?_
        refine go_top (y := nI (n + 1)) (by rw [show (1 : Int32) = nI 1 from by decide +kernel, nI_add]) ?_
        refine go_iastC C (pc := 47) arr_26 (i := 0) (by first | rfl | decide +kernel) (by omega) dX8_makes_47 ?_
        refine go_iload2 C (pc := 48) dX8_makes_48 ?_
        exact absurd (show (1 : Int32) = 0 from h10) (by decide)
    · refine go_aload0 C (pc := 13) dX8_makes_13 ?_
      refine go_get C (pc := 14) 25 (by decide) rfl rfl 0 (by decide) rfl rfl hi_X8_makes_RX8 lk_X8_makes_7 dX8_makes_14 ?_
      refine go_iconst C (pc := 17) (v := 0) (by decide) dX8_makes_17 ?_
      refine go_top (y := nI 0) (by first | rfl | decide +kernel) ?_
      refine go_ialdN C (pc := 18) arr_26 (i := 0) (by omega) dX8_makes_18 ?_
      refine go_top (y := nI n) hs0 ?_
      refine go_bipush C (pc := 19) (v := 16) (by decide) dX8_makes_19 ?_
      refine go_icmp_ge C (pc := 21) (tgt := 28) dX8_makes_21 (by decide) (fun h21 => ?_) (fun h21 => ?_)
      · refine go_iconst C (pc := 28) (v := 0) (by decide) dX8_makes_28 ?_
        refine go_istore2 C (pc := 29) dX8_makes_29 ?_
        refine go_aload0 C (pc := 30) dX8_makes_30 ?_
        refine go_get C (pc := 31) 25 (by decide) rfl rfl 0 (by decide) rfl rfl hi_X8_makes_RX8 lk_X8_makes_7 dX8_makes_31 ?_
        refine go_iconst C (pc := 34) (v := 0) (by decide) dX8_makes_34 ?_
        refine go_dup2 C (pc := 35) rfl rfl dX8_makes_35 ?_
        refine go_top (y := nI 0) (by first | rfl | decide +kernel) ?_
        refine go_ialdN C (pc := 36) arr_26 (i := 0) (by omega) dX8_makes_36 ?_
        refine go_top (y := nI n) hs0 ?_
        refine go_iload2 C (pc := 37) dX8_makes_37 ?_
        refine go_if_eq C (pc := 38) (tgt := 45) dX8_makes_38 (by decide) (fun h38 => ?_) (fun h38 => ?_)
        · refine go_iconst C (pc := 45) (v := 0) (by decide) dX8_makes_45 ?_
          refine go_iadd C (pc := 46) dX8_makes_46 ?_
          refine go_top (y := nI (n + 0)) (by rw [show (0 : Int32) = nI 0 from by decide +kernel, nI_add]) ?_
          refine go_iastC C (pc := 47) arr_26 (i := 0) (by first | rfl | decide +kernel) (by omega) dX8_makes_47 ?_
          refine go_iload2 C (pc := 48) dX8_makes_48 ?_
          have h43 := nx_lt (bneg h6)
          have hz : z = nxI (μ 29) w i false 43 := congrArg Prod.fst (hv.symm.trans (mk_plus (bneg h6)))
          have hlt : ¬ n < 16 := fun y => nI_ge y (by decide) (by rw [← nI16]; exact h21)
          have hg : chgS (μ 29) i (n, pr, th) = (false, (n, pr, th)) := by rw [chgS, if_pos h43.2.1]; exact if_neg hlt
          exact go_zret C hr dX8_makes_49 (by decide) (by rw [hg]; exact ⟨rfl, ⟨rfl, hs1, fun a ha => (pk_un (by omega)).trans (hth a ha)⟩, by rw [hz]; exact hP1, g1, (by repeat' (first | exact same_rf | refine same_ms ?_ (by decide)))⟩)
        · refine go_iconst C (pc := 41) (v := 1) (by decide) dX8_makes_41 ?_
          refine go_goto C (pc := 42) (tgt := 46) dX8_makes_42 (by decide) ?_
          refine go_iadd C (pc := 46) dX8_makes_46 ?_
          refine go_top (y := nI (n + 1)) (by rw [show (1 : Int32) = nI 1 from by decide +kernel, nI_add]) ?_
          refine go_iastC C (pc := 47) arr_26 (i := 0) (by first | rfl | decide +kernel) (by omega) dX8_makes_47 ?_
          refine go_iload2 C (pc := 48) dX8_makes_48 ?_
          exact absurd rfl (show ¬ (0 : Int32) = 0 from h38)
      · refine go_iconst C (pc := 24) (v := 1) (by decide) dX8_makes_24 ?_
        refine go_goto C (pc := 25) (tgt := 29) dX8_makes_25 (by decide) ?_
        refine go_istore2 C (pc := 29) dX8_makes_29 ?_
        refine go_aload0 C (pc := 30) dX8_makes_30 ?_
        refine go_get C (pc := 31) 25 (by decide) rfl rfl 0 (by decide) rfl rfl hi_X8_makes_RX8 lk_X8_makes_7 dX8_makes_31 ?_
        refine go_iconst C (pc := 34) (v := 0) (by decide) dX8_makes_34 ?_
        refine go_dup2 C (pc := 35) rfl rfl dX8_makes_35 ?_
        refine go_top (y := nI 0) (by first | rfl | decide +kernel) ?_
        refine go_ialdN C (pc := 36) arr_26 (i := 0) (by omega) dX8_makes_36 ?_
        refine go_top (y := nI n) hs0 ?_
        refine go_iload2 C (pc := 37) dX8_makes_37 ?_
        refine go_if_eq C (pc := 38) (tgt := 45) dX8_makes_38 (by decide) (fun h38 => ?_) (fun h38 => ?_)
        · refine go_iconst C (pc := 45) (v := 0) (by decide) dX8_makes_45 ?_
          refine go_iadd C (pc := 46) dX8_makes_46 ?_
          refine go_top (y := nI (n + 0)) (by rw [show (0 : Int32) = nI 0 from by decide +kernel, nI_add]) ?_
          refine go_iastC C (pc := 47) arr_26 (i := 0) (by first | rfl | decide +kernel) (by omega) dX8_makes_47 ?_
          refine go_iload2 C (pc := 48) dX8_makes_48 ?_
          exact absurd (show (1 : Int32) = 0 from h38) (by decide)
        · refine go_iconst C (pc := 41) (v := 1) (by decide) dX8_makes_41 ?_
          refine go_goto C (pc := 42) (tgt := 46) dX8_makes_42 (by decide) ?_
          refine go_iadd C (pc := 46) dX8_makes_46 ?_
          refine go_top (y := nI (n + 1)) (by rw [show (1 : Int32) = nI 1 from by decide +kernel, nI_add]) ?_
          refine go_iastC C (pc := 47) arr_26 (i := 0) (by first | rfl | decide +kernel) (by omega) dX8_makes_47 ?_
          refine go_iload2 C (pc := 48) dX8_makes_48 ?_
          have h43 := nx_lt (bneg h6)
          have hz : z = nxI (μ 29) w i false 43 := congrArg Prod.fst (hv.symm.trans (mk_plus (bneg h6)))
          have hlt : n < 16 := Nat.lt_of_not_le (fun y => h21 (by rw [nI16]; exact nI_le y (by omega)))
          have hg : chgS (μ 29) i (n, pr, th) = (true, (n + 1, pr, th)) := by rw [chgS, if_pos h43.2.1]; exact if_pos hlt
          exact go_zret C hr dX8_makes_49 (by decide) (by rw [hg]; exact ⟨rfl, ⟨rfl, hs1, fun a ha => (pk_un (by omega)).trans (hth a ha)⟩, by rw [hz]; exact hP1, g1, (by repeat' (first | exact same_rf | refine same_ms ?_ (by decide)))⟩)

