/-! ===== ThornCoresModel: the changes of the text are made ===== -/
def MoS (μ : Mem) (σ : St) : Prop := Mo μ σ.1 σ.2.1 σ.2.2
/-- the model on its way through a valid text: at i, with the state σ -/
def goI (μ : Mem) (w : Nat) (M : Mem) (i : Nat) (σ : St) : Prop := same μ M [25, 26] ∧ (∀ f, f ≠ 11 → f ≠ 12 → M 25 f = μ 25 f) ∧ Pa M w i false ∧ MoS M σ ∧ TVs σ
set_option maxRecDepth 20000 in
set_option maxHeartbeats 4000000 in
theorem clen_pos (c : Nat → Int32) (i : Nat) : 1 ≤ clen c i := by
  unfold clen
  repeat' split
  all_goals decide
theorem c_X8_go1 {l : Launch} {D : va_G} {ad : Nat → Nat} {cI cL : ClassId} (hfl : l.flags = flags0) (hok : adOK ad) (μ : Mem) (w : Nat) {n : Nat} {pr : Int32} {th : Nat → Int32} (hM : Mo μ n pr th) (hT : TV n pr th) (hl : μ 25 6 = nI w) (hw : w ≤ 60) (hv : dfa (μ 29) w = 4) : CtI l D ad cI cL yX8_go wsX8_go (RM 3 70) [.ref (ad 25), .int 1] μ (fun (r : Int32) (μ' : Mem) => r = nI (runC (μ 29) w (w + 1) 0 (0, (n, pr, th))).1 ∧ MoS μ' (runC (μ 29) w (w + 1) 0 (0, (n, pr, th))).2 ∧ (∀ f, f ≠ 11 → f ≠ 12 → μ' 25 f = μ 25 f) ∧ same μ μ' [25, 26]) := by
  refine ct_i (cc := cX8_go) (maxL := 4) (own := RX8) .int hfl hok (by decide) rfl rfl rfl (Nat.le_of_ble_eq_true rfl) (fun p e s m below meth c C hr => ?_)
  refine go_lv (lv' := [some (.ref (ad 25)), some (.int 1), none, none]) rfl ?_
  obtain ⟨hs0, hs1, hth⟩ := id hM
  have hn := hT.1
  have keyE : ∀ M y i σ, goI μ w M i σ → runC (μ 29) w (w + 1) 0 (0, (n, pr, th)) = (y, σ) → Go p l e (headSpec wsX8_go (RM 3 70)).room s m ([.ref (ad 25), .int 1] : List Value).toArray below meth c 0 0 (MQ below (va_Qi (fun (r : Int32) (μ' : Mem) => r = nI (runC (μ 29) w (w + 1) 0 (0, (n, pr, th))).1 ∧ MoS μ' (runC (μ 29) w (w + 1) 0 (0, (n, pr, th))).2 ∧ (∀ f, f ≠ 11 → f ≠ 12 → μ' 25 f = μ 25 f) ∧ same μ μ' [25, 26]) (fun μ' t => PreW D ad cI cL μ' t) (AW ad)) ([.ref (ad 25), .int 1] : List Value).toArray s 0 0 (AW ad)) (AW ad) D ad cI cL 4 14 [some (.ref (ad 25)), some (.int 1), some (.int (nI y)), some (.int 0)] [] (M) := by
    intro M y i σ hI hr9
    obtain ⟨i1, i2, i3, i4, i5⟩ := hI
    refine go_iload3 C (pc := 14) dX8_go_14 ?_
    refine go_if_eq C (pc := 15) (tgt := 96) dX8_go_15 (by decide) (fun h15 => ?_) (fun h15 => ?_)
    · refine go_iload2 C (pc := 96) dX8_go_96 ?_
      exact go_iret C hr dX8_go_97 (⟨by rw [hr9], by rw [hr9]; exact i4, i2, i1⟩)
    · exact absurd rfl (show ¬ (0 : Int32) = 0 from h15)
  have key : ∀ f M y i σ, w + 1 ≤ i + f → i ≤ w → goI μ w M i σ → dfa (μ 29) i = 0 → (∀ x, x ≤ i → dfa (μ 29) x ≠ 5) → runC (μ 29) w (w + 1) 0 (0, (n, pr, th)) = runC (μ 29) w f i (y, σ) → Go p l e (headSpec wsX8_go (RM 3 70)).room s m ([.ref (ad 25), .int 1] : List Value).toArray below meth c 0 0 (MQ below (va_Qi (fun (r : Int32) (μ' : Mem) => r = nI (runC (μ 29) w (w + 1) 0 (0, (n, pr, th))).1 ∧ MoS μ' (runC (μ 29) w (w + 1) 0 (0, (n, pr, th))).2 ∧ (∀ f, f ≠ 11 → f ≠ 12 → μ' 25 f = μ 25 f) ∧ same μ μ' [25, 26]) (fun μ' t => PreW D ad cI cL μ' t) (AW ad)) ([.ref (ad 25), .int 1] : List Value).toArray s 0 0 (AW ad)) (AW ad) D ad cI cL 4 14 [some (.ref (ad 25)), some (.int 1), some (.int (nI y)), some (.int 1)] [] (M) := by
    intro f
    induction f with
    | zero => exact fun M y i σ h1 h2 => absurd h1 (by omega)
    | succ f ih =>
      intro M y i σ hf hi hI h0 hno hr9
      obtain ⟨i1, i2, i3, i4, i5⟩ := hI
      have e29 : M 29 = μ 29 := i1 29 (by decide)
      have hlt : i < w := Nat.lt_of_le_of_ne hi (fun q => by rw [q, hv] at h0; exact absurd h0 (by decide))
      obtain ⟨ho, o1, o2, o3, -⟩ := chg_ok hw hv hlt h0
      have hcp := clen_pos (μ 29) i
      have hmk : mkP (M 29) w i = (i + clen (μ 29) i, false) := by
        rw [e29]
        rcases mk_dfa (c := μ 29) (w := w) hi h0 hno with ⟨a1, a2, -⟩ | ⟨-, a2⟩
        · exact Prod.ext a2 a1
        · exact absurd hv (fE_no a2)
      rw [run_step (f := f) (x := (y, σ)) hlt] at hr9
      obtain ⟨Z, hZ⟩ : ∃ Z, Z = i + clen (μ 29) i := ⟨_, rfl⟩
      rw [← hZ] at o1 o2 o3 hmk hr9
      refine go_iload3 C (pc := 14) dX8_go_14 ?_
      refine go_if_eq C (pc := 15) (tgt := 96) dX8_go_15 (by decide) (fun h15 => ?_) (fun h15 => ?_)
      · exact absurd (show (1 : Int32) = 0 from h15) (by decide)
      · refine go_iload2 C (pc := 18) dX8_go_18 ?_
        refine go_aload0 C (pc := 19) dX8_go_19 ?_
        refine go_iload1 C (pc := 20) dX8_go_20 ?_
        refine go_ciV1 C (pc := 21) obj_25 (c_X8_makes1 C.fl C.ok M w i Z i4 i5 i3 hmk) gX8_go_X8_makes rfl rfl yok_X8_makes ⟨rfl, rfl⟩ ⟨Nat.le_of_ble_eq_true rfl, Nat.le_of_ble_eq_true rfl⟩ (Nat.le_of_ble_eq_true rfl) ⟨Nat.zero_le _, Nat.zero_le _⟩ dX8_go_21 (fun r3 μ3 hc3 => ?_)
        obtain ⟨rfl, j4, j3, jf, js⟩ := hc3
        obtain ⟨M1, hM1⟩ : ∃ M1, M1 = μ3 := ⟨_, rfl⟩
        rw [← hM1] at j4 j3 jf js
        refine go_mem hM1.symm ?_
        rw [e29] at j4
        have j1 : same μ M1 [25, 26] := same_tr i1 js (by decide) (by decide)
        have j2 : ∀ f, f ≠ 11 → f ≠ 12 → M1 25 f = μ 25 f := fun f a b => (jf f a b).trans (i2 f a b)
        replace j4 : MoS M1 (chgS (μ 29) i σ).2 := j4
        have q5 : ∀ x, x ≤ Z → dfa (μ 29) x ≠ 5 := fun x hx q => by have := dfa_5 (μ 29) q w (by omega); omega
        refine go_top (y := b2i (chgS (μ 29) i σ).1) (by rw [← e29]) ?_
        refine go_if_eq C (pc := 24) (tgt := 31) dX8_go_24 (by decide) (fun h24 => ?_) (fun h24 => ?_)
        · refine go_iconst C (pc := 31) (v := 0) (by decide) dX8_go_31 ?_
          refine go_iadd C (pc := 32) dX8_go_32 ?_
          refine go_top (y := nI (y + 0)) (by rw [show (0 : Int32) = nI 0 from by decide +kernel, nI_add]) ?_
          refine go_top (y := nI y) rfl ?_
          refine go_istore2 C (pc := 33) dX8_go_33 ?_
          refine go_aload0 C (pc := 34) dX8_go_34 ?_
          refine go_get C (pc := 35) 25 (by decide) rfl rfl 12 (by decide) rfl rfl hi_X8_go_RX8 lk_X8_go_106 dX8_go_35 ?_
          refine go_top (y := 0) j3.2.2.1 ?_
          refine go_if_ne C (pc := 38) (tgt := 56) dX8_go_38 (by decide) (fun h38 => ?_) (fun h38 => ?_)
          · exact absurd h38 (by decide)
          · refine go_aload0 C (pc := 41) dX8_go_41 ?_
            refine go_get C (pc := 42) 25 (by decide) rfl rfl 11 (by decide) rfl rfl hi_X8_go_RX8 lk_X8_go_103 dX8_go_42 ?_
            refine go_top (y := nI (Z)) (j3.1) ?_
            refine go_aload0 C (pc := 45) dX8_go_45 ?_
            refine go_get C (pc := 46) 25 (by decide) rfl rfl 6 (by decide) rfl rfl hi_X8_go_RX8 lk_X8_go_100 dX8_go_46 ?_
            refine go_top (y := nI (w)) (j3.2.1) ?_
            refine go_icmp_ge C (pc := 49) (tgt := 56) dX8_go_49 (by decide) (fun h49 => ?_) (fun h49 => ?_)
            · refine go_iconst C (pc := 56) (v := 0) (by decide) dX8_go_56 ?_
              refine go_istore3 C (pc := 57) dX8_go_57 ?_
              refine go_iload3 C (pc := 58) dX8_go_58 ?_
              refine go_if_eq C (pc := 59) (tgt := 14) dX8_go_59 (by decide) (fun h59 => ?_) (fun h59 => ?_)
              · have hy : y = (y + (if (chgS (μ 29) i σ).1 = true then 1 else 0)) := by rw [if_neg (by rw [bpos h24]; decide), Nat.add_zero]
                have hz : Z = w := by have hh : w ≤ Z := Nat.le_of_not_lt (fun q => nI_ge q (by omega) h49); omega
                exact go_lv (lv' := [some (.ref (ad 25)), some (.int 1), some (.int (nI (y + (if (chgS (μ 29) i σ).1 = true then 1 else 0)))), some (.int 0)]) (by rw [← hy]) (keyE M1 (y + (if (chgS (μ 29) i σ).1 = true then 1 else 0)) Z (chgS (μ 29) i σ).2 ⟨j1, j2, j3, j4, TV_chg ho i5⟩ (by rw [hr9, run_stop (by omega)]))
              · exact absurd rfl (show ¬ (0 : Int32) = 0 from h59)
            · refine go_iconst C (pc := 52) (v := 1) (by decide) dX8_go_52 ?_
              refine go_goto C (pc := 53) (tgt := 57) dX8_go_53 (by decide) ?_
              refine go_istore3 C (pc := 57) dX8_go_57 ?_
              refine go_iload3 C (pc := 58) dX8_go_58 ?_
              refine go_if_eq C (pc := 59) (tgt := 14) dX8_go_59 (by decide) (fun h59 => ?_) (fun h59 => ?_)
              · exact absurd (show (1 : Int32) = 0 from h59) (by decide)
              · have hzw : Z < w := Nat.lt_of_not_le (fun q => h49 (nI_le q (by omega)))
                have hnx : nxB (M1 29) w Z false 44 = true := by rw [nxB, decide_eq_true hzw, decide_eq_true (show M1 29 Z = 44 by rw [show M1 29 = μ 29 from j1 29 (by decide)]; exact (o2 hzw).2)]; rfl
                refine go_aload0 C (pc := 62) dX8_go_62 ?_
                refine go_aload0 C (pc := 63) dX8_go_63 ?_
                refine go_bipush C (pc := 64) (v := 44) (by decide) dX8_go_64 ?_
                refine go_ciV1 C (pc := 66) obj_25 (c_X8_isNext C.fl C.ok M1 _ w Z false j3) gX8_go_X8_isNext rfl rfl yok_X8_isNext ⟨rfl, rfl⟩ ⟨Nat.le_of_ble_eq_true rfl, Nat.le_of_ble_eq_true rfl⟩ (Nat.le_of_ble_eq_true rfl) ⟨Nat.zero_le _, Nat.zero_le _⟩ dX8_go_66 (fun r9 μ9 hc9 => ?_)
                obtain ⟨rfl, u2, hm9, k1, k2⟩ := hc9
                subst hm9
                refine go_top (y := b2i (nxB (M1 29) w Z false 44)) rfl ?_
                refine go_if_ne C (pc := 69) (tgt := 76) dX8_go_69 (by decide) (fun h69 => ?_) (fun h69 => ?_)
                · refine go_iconst C (pc := 76) (v := 0) (by decide) dX8_go_76 ?_
                  refine go_put C (pc := 77) 25 (by decide) rfl rfl 12 (by decide) rfl hi_X8_go_RX8 lk_X8_go_106 tyX8_ok nmX8 rfl (nar_z (by decide)) rfl (Nat.le_of_ble_eq_true rfl) rfl dX8_go_77 ?_
                  refine go_aload0 C (pc := 80) dX8_go_80 ?_
                  refine go_get C (pc := 81) 25 (by decide) rfl rfl 12 (by decide) rfl rfl hi_X8_go_RX8 lk_X8_go_106 dX8_go_81 ?_
                  refine go_if_ne C (pc := 84) (tgt := 91) dX8_go_84 (by decide) (fun h84 => ?_) (fun h84 => ?_)
                  · refine go_iconst C (pc := 91) (v := 0) (by decide) dX8_go_91 ?_
                    refine go_istore3 C (pc := 92) dX8_go_92 ?_
                    refine go_goto C (pc := 93) (tgt := 14) dX8_go_93 (by decide) ?_
                    exact absurd rfl (show ¬ (0 : Int32) = 0 from h84)
                  · refine go_iconst C (pc := 87) (v := 1) (by decide) dX8_go_87 ?_
                    refine go_goto C (pc := 88) (tgt := 92) dX8_go_88 (by decide) ?_
                    refine go_istore3 C (pc := 92) dX8_go_92 ?_
                    refine go_goto C (pc := 93) (tgt := 14) dX8_go_93 (by decide) ?_
                    have hy : y = (y + (if (chgS (μ 29) i σ).1 = true then 1 else 0)) := by rw [if_neg (by rw [bpos h24]; decide), Nat.add_zero]
                    exact go_lv (lv' := [some (.ref (ad 25)), some (.int 1), some (.int (nI (y + (if (chgS (μ 29) i σ).1 = true then 1 else 0)))), some (.int 1)]) (by rw [← hy]) (go_mem (mset_mset M1 25 u2 (upd u2 12 0)) (ih (mset M1 25 (upd u2 12 0)) (y + (if (chgS (μ 29) i σ).1 = true then 1 else 0)) (Z + 1) (chgS (μ 29) i σ).2 (by omega) (by omega) ⟨same_tr j1 (same_ms (f := upd u2 12 0) (L := [25]) same_rf (by decide)) (by decide) (by decide), fun f a b => (pk_un b).trans ((k2 f a).trans (j2 f a b)), ⟨k1.trans (by rw [nx_t hnx]), (k2 6 (by decide)).trans j3.2.1, rfl, by omega, hw⟩, j4, TV_chg ho i5⟩ (o2 hzw).1 (le_cases q5 (fun x y1 y2 => by rw [show x = Z + 1 by omega, (o2 hzw).1]; decide)) hr9))
                · exact absurd (bpos h69) (by rw [hnx]; decide)
        · refine go_iconst C (pc := 27) (v := 1) (by decide) dX8_go_27 ?_
          refine go_goto C (pc := 28) (tgt := 32) dX8_go_28 (by decide) ?_
          refine go_iadd C (pc := 32) dX8_go_32 ?_
          refine go_top (y := nI (y + 1)) (by rw [show (1 : Int32) = nI 1 from by decide +kernel, nI_add]) ?_
          
          refine go_istore2 C (pc := 33) dX8_go_33 ?_
          refine go_aload0 C (pc := 34) dX8_go_34 ?_
          refine go_get C (pc := 35) 25 (by decide) rfl rfl 12 (by decide) rfl rfl hi_X8_go_RX8 lk_X8_go_106 dX8_go_35 ?_
          refine go_top (y := 0) j3.2.2.1 ?_
          refine go_if_ne C (pc := 38) (tgt := 56) dX8_go_38 (by decide) (fun h38 => ?_) (fun h38 => ?_)
          · exact absurd h38 (by decide)
          · refine go_aload0 C (pc := 41) dX8_go_41 ?_
            refine go_get C (pc := 42) 25 (by decide) rfl rfl 11 (by decide) rfl rfl hi_X8_go_RX8 lk_X8_go_103 dX8_go_42 ?_
            refine go_top (y := nI (Z)) (j3.1) ?_
            refine go_aload0 C (pc := 45) dX8_go_45 ?_
            refine go_get C (pc := 46) 25 (by decide) rfl rfl 6 (by decide) rfl rfl hi_X8_go_RX8 lk_X8_go_100 dX8_go_46 ?_
            refine go_top (y := nI (w)) (j3.2.1) ?_
            refine go_icmp_ge C (pc := 49) (tgt := 56) dX8_go_49 (by decide) (fun h49 => ?_) (fun h49 => ?_)
            · refine go_iconst C (pc := 56) (v := 0) (by decide) dX8_go_56 ?_
              refine go_istore3 C (pc := 57) dX8_go_57 ?_
              refine go_iload3 C (pc := 58) dX8_go_58 ?_
              refine go_if_eq C (pc := 59) (tgt := 14) dX8_go_59 (by decide) (fun h59 => ?_) (fun h59 => ?_)
              · have hy : (y + 1) = (y + (if (chgS (μ 29) i σ).1 = true then 1 else 0)) := by rw [if_pos (bneg h24)]
                have hz : Z = w := by have hh : w ≤ Z := Nat.le_of_not_lt (fun q => nI_ge q (by omega) h49); omega
                exact go_lv (lv' := [some (.ref (ad 25)), some (.int 1), some (.int (nI (y + (if (chgS (μ 29) i σ).1 = true then 1 else 0)))), some (.int 0)]) (by rw [← hy]) (keyE M1 (y + (if (chgS (μ 29) i σ).1 = true then 1 else 0)) Z (chgS (μ 29) i σ).2 ⟨j1, j2, j3, j4, TV_chg ho i5⟩ (by rw [hr9, run_stop (by omega)]))
              · exact absurd rfl (show ¬ (0 : Int32) = 0 from h59)
            · refine go_iconst C (pc := 52) (v := 1) (by decide) dX8_go_52 ?_
              refine go_goto C (pc := 53) (tgt := 57) dX8_go_53 (by decide) ?_
              refine go_istore3 C (pc := 57) dX8_go_57 ?_
              refine go_iload3 C (pc := 58) dX8_go_58 ?_
              refine go_if_eq C (pc := 59) (tgt := 14) dX8_go_59 (by decide) (fun h59 => ?_) (fun h59 => ?_)
              · exact absurd (show (1 : Int32) = 0 from h59) (by decide)
              · have hzw : Z < w := Nat.lt_of_not_le (fun q => h49 (nI_le q (by omega)))
                have hnx : nxB (M1 29) w Z false 44 = true := by rw [nxB, decide_eq_true hzw, decide_eq_true (show M1 29 Z = 44 by rw [show M1 29 = μ 29 from j1 29 (by decide)]; exact (o2 hzw).2)]; rfl
                refine go_aload0 C (pc := 62) dX8_go_62 ?_
                refine go_aload0 C (pc := 63) dX8_go_63 ?_
                refine go_bipush C (pc := 64) (v := 44) (by decide) dX8_go_64 ?_
                refine go_ciV1 C (pc := 66) obj_25 (c_X8_isNext C.fl C.ok M1 _ w Z false j3) gX8_go_X8_isNext rfl rfl yok_X8_isNext ⟨rfl, rfl⟩ ⟨Nat.le_of_ble_eq_true rfl, Nat.le_of_ble_eq_true rfl⟩ (Nat.le_of_ble_eq_true rfl) ⟨Nat.zero_le _, Nat.zero_le _⟩ dX8_go_66 (fun r16 μ16 hc16 => ?_)
                obtain ⟨rfl, u2, hm16, k1, k2⟩ := hc16
                subst hm16
                refine go_top (y := b2i (nxB (M1 29) w Z false 44)) rfl ?_
                refine go_if_ne C (pc := 69) (tgt := 76) dX8_go_69 (by decide) (fun h69 => ?_) (fun h69 => ?_)
                · refine go_iconst C (pc := 76) (v := 0) (by decide) dX8_go_76 ?_
                  refine go_put C (pc := 77) 25 (by decide) rfl rfl 12 (by decide) rfl hi_X8_go_RX8 lk_X8_go_106 tyX8_ok nmX8 rfl (nar_z (by decide)) rfl (Nat.le_of_ble_eq_true rfl) rfl dX8_go_77 ?_
                  refine go_aload0 C (pc := 80) dX8_go_80 ?_
                  refine go_get C (pc := 81) 25 (by decide) rfl rfl 12 (by decide) rfl rfl hi_X8_go_RX8 lk_X8_go_106 dX8_go_81 ?_
                  refine go_if_ne C (pc := 84) (tgt := 91) dX8_go_84 (by decide) (fun h84 => ?_) (fun h84 => ?_)
                  · refine go_iconst C (pc := 91) (v := 0) (by decide) dX8_go_91 ?_
                    refine go_istore3 C (pc := 92) dX8_go_92 ?_
                    refine go_goto C (pc := 93) (tgt := 14) dX8_go_93 (by decide) ?_
                    exact absurd rfl (show ¬ (0 : Int32) = 0 from h84)
                  · refine go_iconst C (pc := 87) (v := 1) (by decide) dX8_go_87 ?_
                    refine go_goto C (pc := 88) (tgt := 92) dX8_go_88 (by decide) ?_
                    refine go_istore3 C (pc := 92) dX8_go_92 ?_
                    refine go_goto C (pc := 93) (tgt := 14) dX8_go_93 (by decide) ?_
                    have hy : (y + 1) = (y + (if (chgS (μ 29) i σ).1 = true then 1 else 0)) := by rw [if_pos (bneg h24)]
                    exact go_lv (lv' := [some (.ref (ad 25)), some (.int 1), some (.int (nI (y + (if (chgS (μ 29) i σ).1 = true then 1 else 0)))), some (.int 1)]) (by rw [← hy]) (go_mem (mset_mset M1 25 u2 (upd u2 12 0)) (ih (mset M1 25 (upd u2 12 0)) (y + (if (chgS (μ 29) i σ).1 = true then 1 else 0)) (Z + 1) (chgS (μ 29) i σ).2 (by omega) (by omega) ⟨same_tr j1 (same_ms (f := upd u2 12 0) (L := [25]) same_rf (by decide)) (by decide) (by decide), fun f a b => (pk_un b).trans ((k2 f a).trans (j2 f a b)), ⟨k1.trans (by rw [nx_t hnx]), (k2 6 (by decide)).trans j3.2.1, rfl, by omega, hw⟩, j4, TV_chg ho i5⟩ (o2 hzw).1 (le_cases q5 (fun x y1 y2 => by rw [show x = Z + 1 by omega, (o2 hzw).1]; decide)) hr9))
                · exact absurd (bpos h69) (by rw [hnx]; decide)
  refine go_aload0 C (pc := 0) dX8_go_0 ?_
  refine go_iconst C (pc := 1) (v := 0) (by decide) dX8_go_1 ?_
  refine go_put C (pc := 2) 25 (by decide) rfl rfl 11 (by decide) rfl hi_X8_go_RX8 lk_X8_go_103 tyX8_ok nmX8 rfl rfl rfl (Nat.le_of_ble_eq_true rfl) rfl dX8_go_2 ?_
  refine go_aload0 C (pc := 5) dX8_go_5 ?_
  refine go_iconst C (pc := 6) (v := 0) (by decide) dX8_go_6 ?_
  refine go_put C (pc := 7) 25 (by decide) rfl rfl 12 (by decide) rfl hi_X8_go_RX8 lk_X8_go_106 tyX8_ok nmX8 rfl (nar_z (by decide)) rfl (Nat.le_of_ble_eq_true rfl) rfl dX8_go_7 ?_
  refine go_iconst C (pc := 10) (v := 0) (by decide) dX8_go_10 ?_
  refine go_istore2 C (pc := 11) dX8_go_11 ?_
  refine go_iconst C (pc := 12) (v := 1) (by decide) dX8_go_12 ?_
  refine go_istore3 C (pc := 13) dX8_go_13 ?_
  exact go_lv (lv' := [some (.ref (ad 25)), some (.int 1), some (.int (nI 0)), some (.int 1)]) (by rw [nI_0]) (go_mem (mset_mset μ 25 _ _) (key (w + 1) _ 0 0 (n, pr, th) (by omega) (Nat.zero_le _) ⟨same_ms (L := [25, 26]) same_rf (by decide), fun f a b => (pk_un b).trans (pk_un a), ⟨rfl, hl, rfl, Nat.zero_le _, hw⟩, hM, hT⟩ rfl (fun x hx => by rw [show x = 0 by omega]; show (0 : Nat) ≠ 5; decide) rfl))

