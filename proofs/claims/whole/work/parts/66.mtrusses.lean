/-! ===== ThornCoresModel: trusses ===== -/
def dwJ (th : Nat → Int32) (n k : Nat) (F0 F : Nat → Int32) (r : Int32) (i j : Nat) : Prop := trI th n k F ∧ ((r = 0 ∧ F = F0 ∧ ∀ a b, (a < i ∨ (a = i ∧ b < j)) → b < a → bt (F a) b = true → k ≤ ct (F a &&& F b)) ∨ (r = 1 ∧ sumE F + 2 ≤ sumE F0))
theorem dj_next {th : Nat → Int32} {n k : Nat} {F0 F : Nat → Int32} {r : Int32} {i j : Nat} (h : dwJ th n k F0 F r i j) (hs : bt (F i) j = true → k ≤ ct (F i &&& F j)) : dwJ th n k F0 F r i (j + 1) := by
  refine ⟨h.1, h.2.imp (fun ⟨h1, h2, h3⟩ => ⟨h1, h2, fun a b hab h4 h6 => ?_⟩) id⟩
  by_cases e : a = i ∧ b = j
  · rw [e.1, e.2] at h6 ⊢; exact hs h6
  · exact h3 a b (by omega) h4 h6
theorem dj_row {th : Nat → Int32} {n k : Nat} {F0 F : Nat → Int32} {r : Int32} {i : Nat} (h : dwJ th n k F0 F r i i) : dwJ th n k F0 F r (i + 1) 0 := by
  refine ⟨h.1, h.2.imp (fun ⟨h1, h2, h3⟩ => ⟨h1, h2, fun a b hab h4 h6 => h3 a b ?_ h4 h6⟩) id⟩
  omega
theorem dj_drop {th : Nat → Int32} {n k : Nat} {F0 F : Nat → Int32} {r : Int32} {i j : Nat} (h : dwJ th n k F0 F r i j) (hi : i < 16) (hj : j < 16) (hb : bt (F i) j = true) (hk : ct (F i &&& F j) < k) : dwJ th n k F0 (dropE F i j) 1 i (j + 1) := by
  have e := sumE_drop h.1.1 hi hj hb
  refine ⟨trI_drop h.1 hi hj hb hk, Or.inr ⟨rfl, ?_⟩⟩
  rcases h.2 with ⟨-, h2, -⟩ | ⟨-, h2⟩
  · rw [← h2]; omega
  · omega
theorem dj_end {th : Nat → Int32} {n k : Nat} {F0 F : Nat → Int32} {r : Int32} {j : Nat} (h : dwJ th n k F0 F r n j) : trI th n k F ∧ ((r = 0 ∧ F = F0 ∧ trC k F) ∨ (r = 1 ∧ sumE F + 2 ≤ sumE F0)) := by
  refine ⟨h.1, h.2.imp (fun ⟨h1, h2, h3⟩ => ⟨h1, h2, fun a b ha hb => ?_⟩) id⟩
  obtain ⟨q1, q2, q3⟩ := h.1.1.2.2.1 a b ha hb
  have hn := h.1.1.1
  rcases Nat.lt_or_ge b a with w | w
  · exact h3 a b (by omega) w hb
  · have := h3 b a (by omega) (by omega) (by rw [h.1.1.2.2.2 b a (by omega) ha]; exact hb)
    rw [show F a &&& F b = F b &&& F a from b_ext fun t _ => by rw [b_and, b_and, Bool.and_comm]]
    exact this
def agr (n : Nat) (X F : Nat → Int32) : Prop := ∀ i, i < n → X i = F i
def drX (X : Nat → Int32) (x y : Nat) : Nat → Int32 := upd (upd X x (X x &&& (bitI (nI y) ^^^ (-1)))) y (upd X x (X x &&& (bitI (nI y) ^^^ (-1))) y &&& (bitI (nI x) ^^^ (-1)))
theorem agr_drop {n : Nat} {X F : Nat → Int32} {x y : Nat} (h : agr n X F) (hx : x < n) (hy : y < n) (hne : x ≠ y) : agr n (drX X x y) (dropE F x y) := fun i hi => by
  unfold drX dropE
  by_cases e : i = y
  · subst e; rw [pk_us, pk_us, pk_un hne.symm, h i hi]
  · rw [pk_un e, pk_un e]
    by_cases e2 : i = x
    · subst e2; rw [pk_us, pk_us, h i hi]
    · rw [pk_un e2, pk_un e2, h i hi]
theorem row_0 {n : Nat} {pr : Int32} {F : Nat → Int32} (hT : TV n pr F) {i : Nat} (h1 : n ≤ i) (h2 : i < 16) : F i = 0 := b_ext (fun j _ => by
  rw [b_0]
  cases q : bt (F i) j
  · rfl
  · exact absurd (hT.2.2.1 i j h2 q).1 (by omega))
theorem sumI_cong {f g : Nat → Int32} : ∀ {n : Nat}, (∀ i, i < n → f i = g i) → sumI f n = sumI g n
  | 0, _ => rfl
  | n + 1, h => by rw [sumI, sumI, sumI_cong (fun i hi => h i (Nat.lt_succ_of_lt hi)), h n (Nat.lt_succ_self n)]
theorem sumI_cut {f : Nat → Int32} {n : Nat} : ∀ d, (∀ i, n ≤ i → i < n + d → f i = 0) → sumI f (n + d) = sumI f n
  | 0, _ => rfl
  | d + 1, h => by rw [← Nat.add_assoc, sumI, h (n + d) (by omega) (by omega), sumI_cut d (fun i h1 h2 => h i h1 (by omega))]; exact Int32.add_zero _
theorem trS_n {th : Nat → Int32} {n k : Nat} {pr : Int32} (hT : TV n pr th) : trS th n k = sumI (fun i => nI (ct (trE th n k i))) n / 2 := by
  have hn := hT.1
  have h0 : ct 0 = 0 := by decide +kernel
  have := sumI_cut (f := fun i => nI (ct (trE th n k i))) (n := n) (16 - n) (fun i h1 h2 => by
    show nI (ct (trE th n k i)) = 0
    rw [row_0 (trE_is hT).1.1 h1 (by omega), h0]; rfl)
  rw [show n + (16 - n) = 16 by omega] at this
  unfold trS
  rw [this]
theorem yok_X8_trusses : yOK yX8_trusses 1 := by unfold yOK; decide +kernel
theorem hi_X8_trusses_RX8 : ∀ w ∈ wsX80, w ∈ wsX8_trusses := by decide +kernel
theorem lk_X8_trusses_7 : Cond.fieldLink RX8 7 "ThornCoresModel" "s" "[I" ∈ wsX8_trusses := by decide +kernel
theorem lk_X8_trusses_28 : Cond.fieldLink RX8 28 "ThornCoresModel" "bound" "[I" ∈ wsX8_trusses := by decide +kernel
set_option maxRecDepth 20000 in
set_option maxHeartbeats 4000000 in
theorem c_X8_trusses {l : Launch} {D : va_G} {ad : Nat → Nat} {cI cL : ClassId} (hfl : l.flags = flags0) (hok : adOK ad) (μ : Mem) (k : Nat) {n : Nat} {pr : Int32} {th : Nat → Int32} (hM : Mo μ n pr th) (hT : TV n pr th) (hk : k ≤ 16) : CtV l D ad cI cL yX8_trusses wsX8_trusses (RM 2 44) [.ref (ad 25), .int (nI k)] μ (fun (μ' : Mem) => ∃ Y, μ' = mset μ 32 Y ∧ agr n Y (trE th n k)) := by
  refine ct_v (cc := cX8_trusses) (maxL := 5) (own := RX8) hfl hok (by decide) rfl rfl rfl (Nat.le_of_ble_eq_true rfl) (fun p e s m below meth c C hr => ?_)
  refine go_lv (lv' := [some (.ref (ad 25)), some (.int (nI k)), none, none, none]) rfl ?_
  obtain ⟨hs0, hs1, hth⟩ := id hM
  have hn := hT.1
  have keyE : ∀ F Y, isTr th n k F → agr n Y F → Go p l e (headSpec wsX8_trusses (RM 2 44)).room s m ([.ref (ad 25), .int (nI k)] : List Value).toArray below meth c 0 0 (MQ below (va_Qv (fun (μ' : Mem) => ∃ Y, μ' = mset μ 32 Y ∧ agr n Y (trE th n k)) (fun μ' t => PreW D ad cI cL μ' t) (AW ad)) ([.ref (ad 25), .int (nI k)] : List Value).toArray s 0 0 (AW ad)) (AW ad) D ad cI cL 5 34 [some (.ref (ad 25)), some (.int (nI k)), some (.int 0), none, none] [] (mset μ 32 Y) := by
    intro F Y hF hX
    refine go_iload2 C (pc := 34) dX8_trusses_34 ?_
    refine go_if_eq C (pc := 35) (tgt := 133) dX8_trusses_35 (by decide) (fun h35 => ?_) (fun h35 => ?_)
    · exact go_vret C hr dX8_trusses_133 (⟨Y, rfl, fun i hi => by rw [hX i hi]; exact trE_eq hF (by omega)⟩)
    · exact absurd rfl h35
  have key : ∀ f F Y, sumE F < f → trI th n k F → agr n Y F → Go p l e (headSpec wsX8_trusses (RM 2 44)).room s m ([.ref (ad 25), .int (nI k)] : List Value).toArray below meth c 0 0 (MQ below (va_Qv (fun (μ' : Mem) => ∃ Y, μ' = mset μ 32 Y ∧ agr n Y (trE th n k)) (fun μ' t => PreW D ad cI cL μ' t) (AW ad)) ([.ref (ad 25), .int (nI k)] : List Value).toArray s 0 0 (AW ad)) (AW ad) D ad cI cL 5 34 [some (.ref (ad 25)), some (.int (nI k)), some (.int 1), none, none] [] (mset μ 32 Y) := by
    intro f
    induction f with
    | zero => exact fun F Y hf => absurd hf (Nat.not_lt_zero _)
    | succ f ih =>
      intro F0 Y0 hf hI0 hX0
      have key2 : ∀ x, x ≤ n → ∀ F Y r, dwJ th n k F0 F r x 0 → agr n Y F → Go p l e (headSpec wsX8_trusses (RM 2 44)).room s m ([.ref (ad 25), .int (nI k)] : List Value).toArray below meth c 0 0 (MQ below (va_Qv (fun (μ' : Mem) => ∃ Y, μ' = mset μ 32 Y ∧ agr n Y (trE th n k)) (fun μ' t => PreW D ad cI cL μ' t) (AW ad)) ([.ref (ad 25), .int (nI k)] : List Value).toArray s 0 0 (AW ad)) (AW ad) D ad cI cL 5 42 [some (.ref (ad 25)), some (.int (nI k)), some (.int r), some (.int (nI x)), none] [] (mset μ 32 Y) := by
        refine dn_ind ?_ ?_
        · intro F Y r hF hX
          refine go_iload3 C (pc := 42) dX8_trusses_42 ?_
          refine go_aload0 C (pc := 43) dX8_trusses_43 ?_
          refine go_get C (pc := 44) 25 (by decide) rfl rfl 0 (by decide) rfl rfl hi_X8_trusses_RX8 lk_X8_trusses_7 dX8_trusses_44 ?_
          refine go_iconst C (pc := 47) (v := 0) (by decide) dX8_trusses_47 ?_
          refine go_top (y := nI 0) (by first | rfl | decide +kernel) ?_
          refine go_ialdN C (pc := 48) arr_26 (i := 0) (by omega) dX8_trusses_48 ?_
          refine go_top (y := nI n) hs0 ?_
          refine go_icmp_ge C (pc := 49) (tgt := 130) dX8_trusses_49 (by decide) (fun h49 => ?_) (fun h49 => ?_)
          · refine go_goto C (pc := 130) (tgt := 34) dX8_trusses_130 (by decide) ?_
            exact go_drop3 (by
              obtain ⟨q0, ⟨e1, e2, e3⟩ | ⟨e1, e2⟩⟩ := dj_end hF
              · rw [e1]; exact keyE F Y ⟨q0, e3⟩ hX
              · rw [e1]; exact ih F Y (by omega) q0 hX)
          · exact absurd (nI_le (Nat.le_refl _) (by omega)) h49
        · intro x hx ih1
          have key3 : ∀ y, y ≤ x → ∀ F Y r, dwJ th n k F0 F r x y → agr n Y F → Go p l e (headSpec wsX8_trusses (RM 2 44)).room s m ([.ref (ad 25), .int (nI k)] : List Value).toArray below meth c 0 0 (MQ below (va_Qv (fun (μ' : Mem) => ∃ Y, μ' = mset μ 32 Y ∧ agr n Y (trE th n k)) (fun μ' t => PreW D ad cI cL μ' t) (AW ad)) ([.ref (ad 25), .int (nI k)] : List Value).toArray s 0 0 (AW ad)) (AW ad) D ad cI cL 5 55 [some (.ref (ad 25)), some (.int (nI k)), some (.int r), some (.int (nI x)), some (.int (nI y))] [] (mset μ 32 Y) := by
            refine dn_ind ?_ ?_
            · intro F Y r hF hX
              refine go_iload4 C (pc := 55) dX8_trusses_55 ?_
              refine go_iload3 C (pc := 57) dX8_trusses_57 ?_
              refine go_icmp_ge C (pc := 58) (tgt := 124) dX8_trusses_58 (by decide) (fun h58 => ?_) (fun h58 => ?_)
              · refine go_iinc3 C (pc := 124) (v := 1) dX8_trusses_124 (by decide) ?_
                refine go_goto C (pc := 127) (tgt := 42) dX8_trusses_127 (by decide) ?_
                exact go_drop4 (go_lv (by rw [nI_1]) (ih1 F Y r (dj_row hF) hX))
              · exact absurd (nI_le (Nat.le_refl _) (by omega)) h58
            · intro y hy ih2 F Y r hF hX
              refine go_iload4 C (pc := 55) dX8_trusses_55 ?_
              refine go_iload3 C (pc := 57) dX8_trusses_57 ?_
              refine go_icmp_ge C (pc := 58) (tgt := 124) dX8_trusses_58 (by decide) (fun h58 => ?_) (fun h58 => ?_)
              · exact absurd h58 (nI_ge hy (by omega))
              · refine go_aload0 C (pc := 61) dX8_trusses_61 ?_
                refine go_get C (pc := 62) 25 (by decide) rfl rfl 10 (by decide) rfl rfl hi_X8_trusses_RX8 lk_X8_trusses_28 dX8_trusses_62 ?_
                refine go_iload3 C (pc := 65) dX8_trusses_65 ?_
                refine go_ialdN C (pc := 66) arr_32 (i := x) (by omega) dX8_trusses_66 ?_
                refine go_top (y := F x) (hX x hx) ?_
                refine go_iload4 C (pc := 67) dX8_trusses_67 ?_
                refine go_ciS2 C (pc := 69) (c_X8_has C.fl C.ok _ _ _ (by omega)) gX8_trusses_X8_has rfl yok_X8_has ⟨rfl, rfl⟩ ⟨Nat.le_of_ble_eq_true rfl, Nat.le_of_ble_eq_true rfl⟩ (Nat.le_of_ble_eq_true rfl) ⟨Nat.zero_le _, Nat.zero_le _⟩ dX8_trusses_69 (fun r5 μ5 hc5 => ?_)
                obtain ⟨rfl, hm5⟩ := hc5
                replace hm5 := hm5.symm
                subst hm5
                refine go_if_eq C (pc := 72) (tgt := 118) dX8_trusses_72 (by decide) (fun h72 => ?_) (fun h72 => ?_)
                · refine go_iinc4 C (pc := 118) (v := 1) dX8_trusses_118 (by decide) ?_
                  refine go_goto C (pc := 121) (tgt := 55) dX8_trusses_121 (by decide) ?_
                  exact go_lv (by rw [nI_1]) (ih2 F Y r (dj_next hF (fun w => absurd (w.symm.trans (bpos h72)) (by decide))) hX)
                · refine go_aload0 C (pc := 75) dX8_trusses_75 ?_
                  refine go_iload3 C (pc := 76) dX8_trusses_76 ?_
                  refine go_iload4 C (pc := 77) dX8_trusses_77 ?_
                  refine go_ciV2 C (pc := 79) obj_25 (c_X8_supported C.fl C.ok (mset μ 32 Y) _ _ (by omega) (by omega)) gX8_trusses_X8_supported rfl rfl yok_X8_supported ⟨rfl, rfl⟩ ⟨Nat.le_of_ble_eq_true rfl, Nat.le_of_ble_eq_true rfl⟩ (Nat.le_of_ble_eq_true rfl) ⟨Nat.zero_le _, Nat.zero_le _⟩ dX8_trusses_79 (fun r7 μ7 hc7 => ?_)
                  obtain ⟨rfl, hm7⟩ := hc7
                  replace hm7 := hm7.symm
                  subst hm7
                  refine go_top (y := nI (ct (F x &&& F y))) (by show nI (ct (Y x &&& Y y)) = _; rw [hX x hx, hX y (by omega)]) ?_
                  refine go_iload1 C (pc := 82) dX8_trusses_82 ?_
                  refine go_icmp_ge C (pc := 83) (tgt := 118) dX8_trusses_83 (by decide) (fun h83 => ?_) (fun h83 => ?_)
                  · refine go_iinc4 C (pc := 118) (v := 1) dX8_trusses_118 (by decide) ?_
                    refine go_goto C (pc := 121) (tgt := 55) dX8_trusses_121 (by decide) ?_
                    exact go_lv (by rw [nI_1]) (ih2 F Y r (dj_next hF (fun _ => (nI_leI (by omega) (by have := ct_le (F x &&& F y); omega)).mp h83)) hX)
                  · refine go_aload0 C (pc := 86) dX8_trusses_86 ?_
                    refine go_get C (pc := 87) 25 (by decide) rfl rfl 10 (by decide) rfl rfl hi_X8_trusses_RX8 lk_X8_trusses_28 dX8_trusses_87 ?_
                    refine go_iload3 C (pc := 90) dX8_trusses_90 ?_
                    refine go_dup2 C (pc := 91) rfl rfl dX8_trusses_91 ?_
                    refine go_ialdN C (pc := 92) arr_32 (i := x) (by omega) dX8_trusses_92 ?_
                    refine go_iconst C (pc := 93) (v := 1) (by decide) dX8_trusses_93 ?_
                    refine go_iload4 C (pc := 94) dX8_trusses_94 ?_
                    refine go_ishl C (pc := 96) dX8_trusses_96 ?_
                    refine go_iconst C (pc := 97) (v := -1) (by decide) dX8_trusses_97 ?_
                    refine go_ixor C (pc := 98) dX8_trusses_98 ?_
                    refine go_iand C (pc := 99) dX8_trusses_99 ?_
                    refine go_iastN C (pc := 100) arr_32 (i := x) (by omega) dX8_trusses_100 ?_
                    refine go_aload0 C (pc := 101) dX8_trusses_101 ?_
                    refine go_get C (pc := 102) 25 (by decide) rfl rfl 10 (by decide) rfl rfl hi_X8_trusses_RX8 lk_X8_trusses_28 dX8_trusses_102 ?_
                    refine go_iload4 C (pc := 105) dX8_trusses_105 ?_
                    refine go_dup2 C (pc := 107) rfl rfl dX8_trusses_107 ?_
                    refine go_ialdN C (pc := 108) arr_32 (i := y) (by omega) dX8_trusses_108 ?_
                    refine go_iconst C (pc := 109) (v := 1) (by decide) dX8_trusses_109 ?_
                    refine go_iload3 C (pc := 110) dX8_trusses_110 ?_
                    refine go_ishl C (pc := 111) dX8_trusses_111 ?_
                    refine go_iconst C (pc := 112) (v := -1) (by decide) dX8_trusses_112 ?_
                    refine go_ixor C (pc := 113) dX8_trusses_113 ?_
                    refine go_iand C (pc := 114) dX8_trusses_114 ?_
                    refine go_iastN C (pc := 115) arr_32 (i := y) (by omega) dX8_trusses_115 ?_
                    refine go_iconst C (pc := 116) (v := 1) (by decide) dX8_trusses_116 ?_
                    refine go_istore2 C (pc := 117) dX8_trusses_117 ?_
                    refine go_iinc4 C (pc := 118) (v := 1) dX8_trusses_118 (by decide) ?_
                    refine go_goto C (pc := 121) (tgt := 55) dX8_trusses_121 (by decide) ?_
                    exact go_lv (by rw [nI_1]) (go_mem (show _ = mset μ 32 (drX Y x y) from by rw [mset_mset, mset_mset]; rfl) (ih2 (dropE F x y) (drX Y x y) 1 (dj_drop hF (by omega) (by omega) (bneg h72) (by have := ct_le (F x &&& F y); exact Nat.not_le.mp (fun q => h83 (nI_le q (by omega))))) (agr_drop hX hx (by omega) (by omega))))
          intro F Y r hF hX
          refine go_iload3 C (pc := 42) dX8_trusses_42 ?_
          refine go_aload0 C (pc := 43) dX8_trusses_43 ?_
          refine go_get C (pc := 44) 25 (by decide) rfl rfl 0 (by decide) rfl rfl hi_X8_trusses_RX8 lk_X8_trusses_7 dX8_trusses_44 ?_
          refine go_iconst C (pc := 47) (v := 0) (by decide) dX8_trusses_47 ?_
          refine go_top (y := nI 0) (by first | rfl | decide +kernel) ?_
          refine go_ialdN C (pc := 48) arr_26 (i := 0) (by omega) dX8_trusses_48 ?_
          refine go_top (y := nI n) hs0 ?_
          refine go_icmp_ge C (pc := 49) (tgt := 130) dX8_trusses_49 (by decide) (fun h49 => ?_) (fun h49 => ?_)
          · exact absurd h49 (nI_ge hx (by omega))
          · refine go_iconst C (pc := 52) (v := 0) (by decide) dX8_trusses_52 ?_
            refine go_istore4 C (pc := 53) dX8_trusses_53 ?_
            exact go_lv (by rw [nI_0]) (key3 0 (Nat.zero_le _) F Y r hF hX)
      refine go_iload2 C (pc := 34) dX8_trusses_34 ?_
      refine go_if_eq C (pc := 35) (tgt := 133) dX8_trusses_35 (by decide) (fun h35 => ?_) (fun h35 => ?_)
      · exact absurd (show (1 : Int32) = 0 from h35) (by decide)
      · refine go_iconst C (pc := 38) (v := 0) (by decide) dX8_trusses_38 ?_
        refine go_istore2 C (pc := 39) dX8_trusses_39 ?_
        refine go_iconst C (pc := 40) (v := 0) (by decide) dX8_trusses_40 ?_
        refine go_istore3 C (pc := 41) dX8_trusses_41 ?_
        exact go_lv (by rw [nI_0]) (key2 0 (Nat.zero_le _) F0 Y0 0 ⟨hI0, Or.inl ⟨rfl, rfl, fun a b h => by omega⟩⟩ hX0)
  have keyC : ∀ x, x ≤ n → ∀ Y, agr x Y th → Go p l e (headSpec wsX8_trusses (RM 2 44)).room s m ([.ref (ad 25), .int (nI k)] : List Value).toArray below meth c 0 0 (MQ below (va_Qv (fun (μ' : Mem) => ∃ Y, μ' = mset μ 32 Y ∧ agr n Y (trE th n k)) (fun μ' t => PreW D ad cI cL μ' t) (AW ad)) ([.ref (ad 25), .int (nI k)] : List Value).toArray s 0 0 (AW ad)) (AW ad) D ad cI cL 5 2 [some (.ref (ad 25)), some (.int (nI k)), some (.int (nI x)), none, none] [] (mset μ 32 Y) := by
    refine dn_ind ?_ ?_
    · intro Y hX
      refine go_iload2 C (pc := 2) dX8_trusses_2 ?_
      refine go_aload0 C (pc := 3) dX8_trusses_3 ?_
      refine go_get C (pc := 4) 25 (by decide) rfl rfl 0 (by decide) rfl rfl hi_X8_trusses_RX8 lk_X8_trusses_7 dX8_trusses_4 ?_
      refine go_iconst C (pc := 7) (v := 0) (by decide) dX8_trusses_7 ?_
      refine go_top (y := nI 0) (by first | rfl | decide +kernel) ?_
      refine go_ialdN C (pc := 8) arr_26 (i := 0) (by omega) dX8_trusses_8 ?_
      refine go_top (y := nI n) hs0 ?_
      refine go_icmp_ge C (pc := 9) (tgt := 32) dX8_trusses_9 (by decide) (fun h9 => ?_) (fun h9 => ?_)
      · refine go_iconst C (pc := 32) (v := 1) (by decide) dX8_trusses_32 ?_
        refine go_istore2 C (pc := 33) dX8_trusses_33 ?_
        exact key (sumE th + 1) th Y (Nat.lt_succ_self _) (trI_0 hT) hX
      · exact absurd (nI_le (Nat.le_refl _) (by omega)) h9
    · intro x hx ih Y hX
      refine go_iload2 C (pc := 2) dX8_trusses_2 ?_
      refine go_aload0 C (pc := 3) dX8_trusses_3 ?_
      refine go_get C (pc := 4) 25 (by decide) rfl rfl 0 (by decide) rfl rfl hi_X8_trusses_RX8 lk_X8_trusses_7 dX8_trusses_4 ?_
      refine go_iconst C (pc := 7) (v := 0) (by decide) dX8_trusses_7 ?_
      refine go_top (y := nI 0) (by first | rfl | decide +kernel) ?_
      refine go_ialdN C (pc := 8) arr_26 (i := 0) (by omega) dX8_trusses_8 ?_
      refine go_top (y := nI n) hs0 ?_
      refine go_icmp_ge C (pc := 9) (tgt := 32) dX8_trusses_9 (by decide) (fun h9 => ?_) (fun h9 => ?_)
      · exact absurd h9 (nI_ge hx (by omega))
      · refine go_aload0 C (pc := 12) dX8_trusses_12 ?_
        refine go_get C (pc := 13) 25 (by decide) rfl rfl 10 (by decide) rfl rfl hi_X8_trusses_RX8 lk_X8_trusses_28 dX8_trusses_13 ?_
        refine go_iload2 C (pc := 16) dX8_trusses_16 ?_
        refine go_aload0 C (pc := 17) dX8_trusses_17 ?_
        refine go_get C (pc := 18) 25 (by decide) rfl rfl 0 (by decide) rfl rfl hi_X8_trusses_RX8 lk_X8_trusses_7 dX8_trusses_18 ?_
        refine go_iconst C (pc := 21) (v := 2) (by decide) dX8_trusses_21 ?_
        refine go_iload2 C (pc := 22) dX8_trusses_22 ?_
        refine go_iadd C (pc := 23) dX8_trusses_23 ?_
        refine go_top (y := nI (2 + x)) (by rw [show (2 : Int32) = nI 2 from by decide +kernel, nI_add]) ?_
        refine go_ialdN C (pc := 24) arr_26 (i := (2 + x)) (by omega) dX8_trusses_24 ?_
        refine go_top (y := th x) (hth _ (by omega)) ?_
        refine go_iastN C (pc := 25) arr_32 (i := x) (by omega) dX8_trusses_25 ?_
        refine go_iinc2 C (pc := 26) (v := 1) dX8_trusses_26 (by decide) ?_
        refine go_goto C (pc := 29) (tgt := 2) dX8_trusses_29 (by decide) ?_
        exact go_lv (by rw [nI_1]) (go_mem (show _ = mset μ 32 (upd Y x (th x)) from by rw [mset_mset]; rfl) (ih (upd Y x (th x)) (fun i hi => by by_cases e : i = x; rw [e, pk_us]; rw [pk_un e]; exact hX i (by omega))))
  refine go_iconst C (pc := 0) (v := 0) (by decide) dX8_trusses_0 ?_
  refine go_istore2 C (pc := 1) dX8_trusses_1 ?_
  exact go_lv (by rw [nI_0]) (go_mem (mset_id μ 32).symm (keyC 0 (Nat.zero_le _) (μ 32) (fun i hi => absurd hi (Nat.not_lt_zero i))))

theorem yok_X8_thorns : yOK yX8_thorns 1 := by unfold yOK; decide +kernel
theorem hi_X8_thorns_RX8 : ∀ w ∈ wsX80, w ∈ wsX8_thorns := by decide +kernel
theorem lk_X8_thorns_7 : Cond.fieldLink RX8 7 "ThornCoresModel" "s" "[I" ∈ wsX8_thorns := by decide +kernel
theorem lk_X8_thorns_28 : Cond.fieldLink RX8 28 "ThornCoresModel" "bound" "[I" ∈ wsX8_thorns := by decide +kernel
set_option maxRecDepth 20000 in
set_option maxHeartbeats 4000000 in
theorem c_X8_thorns {l : Launch} {D : va_G} {ad : Nat → Nat} {cI cL : ClassId} (hfl : l.flags = flags0) (hok : adOK ad) (μ : Mem) (k : Nat) {n : Nat} {pr : Int32} {th : Nat → Int32} (hM : Mo μ n pr th) (hT : TV n pr th) (hk : k ≤ 16) : CtI l D ad cI cL yX8_thorns wsX8_thorns (RM 3 68) [.ref (ad 25), .int (nI k)] μ (fun (r : Int32) (μ' : Mem) => r = trS th n k ∧ ∃ Y, μ' = mset μ 32 Y) := by
  refine ct_i (cc := cX8_thorns) (maxL := 4) (own := RX8) .int hfl hok (by decide) rfl rfl rfl (Nat.le_of_ble_eq_true rfl) (fun p e s m below meth c C hr => ?_)
  refine go_lv (lv' := [some (.ref (ad 25)), some (.int (nI k)), none, none]) rfl ?_
  obtain ⟨hs0, hs1, hth⟩ := id hM
  have hn := hT.1
  have key : ∀ Y, agr n Y (trE th n k) → ∀ x, x ≤ n → Go p l e (headSpec wsX8_thorns (RM 3 68)).room s m ([.ref (ad 25), .int (nI k)] : List Value).toArray below meth c 0 0 (MQ below (va_Qi (fun (r : Int32) (μ' : Mem) => r = trS th n k ∧ ∃ Y, μ' = mset μ 32 Y) (fun μ' t => PreW D ad cI cL μ' t) (AW ad)) ([.ref (ad 25), .int (nI k)] : List Value).toArray s 0 0 (AW ad)) (AW ad) D ad cI cL 4 9 [some (.ref (ad 25)), some (.int (nI k)), some (.int (sumI (fun i => nI (ct (trE th n k i))) x)), some (.int (nI x))] [] (mset μ 32 Y) := by
    intro Y hX
    refine dn_ind ?_ ?_
    · refine go_iload3 C (pc := 9) dX8_thorns_9 ?_
      refine go_aload0 C (pc := 10) dX8_thorns_10 ?_
      refine go_get C (pc := 11) 25 (by decide) rfl rfl 0 (by decide) rfl rfl hi_X8_thorns_RX8 lk_X8_thorns_7 dX8_thorns_11 ?_
      refine go_iconst C (pc := 14) (v := 0) (by decide) dX8_thorns_14 ?_
      refine go_top (y := nI 0) (by first | rfl | decide +kernel) ?_
      refine go_ialdN C (pc := 15) arr_26 (i := 0) (by omega) dX8_thorns_15 ?_
      refine go_top (y := nI n) hs0 ?_
      refine go_icmp_ge C (pc := 16) (tgt := 37) dX8_thorns_16 (by decide) (fun h16 => ?_) (fun h16 => ?_)
      · refine go_iload2 C (pc := 37) dX8_thorns_37 ?_
        refine go_iconst C (pc := 38) (v := 2) (by decide) dX8_thorns_38 ?_
        refine go_idiv C (pc := 39) (by decide) dX8_thorns_39 ?_
        exact go_iret C hr dX8_thorns_40 (⟨by rw [trS_n hT], Y, rfl⟩)
      · exact absurd (nI_le (Nat.le_refl _) (by omega)) h16
    · intro x hx ih
      refine go_iload3 C (pc := 9) dX8_thorns_9 ?_
      refine go_aload0 C (pc := 10) dX8_thorns_10 ?_
      refine go_get C (pc := 11) 25 (by decide) rfl rfl 0 (by decide) rfl rfl hi_X8_thorns_RX8 lk_X8_thorns_7 dX8_thorns_11 ?_
      refine go_iconst C (pc := 14) (v := 0) (by decide) dX8_thorns_14 ?_
      refine go_top (y := nI 0) (by first | rfl | decide +kernel) ?_
      refine go_ialdN C (pc := 15) arr_26 (i := 0) (by omega) dX8_thorns_15 ?_
      refine go_top (y := nI n) hs0 ?_
      refine go_icmp_ge C (pc := 16) (tgt := 37) dX8_thorns_16 (by decide) (fun h16 => ?_) (fun h16 => ?_)
      · exact absurd h16 (nI_ge hx (by omega))
      · refine go_iload2 C (pc := 19) dX8_thorns_19 ?_
        refine go_aload0 C (pc := 20) dX8_thorns_20 ?_
        refine go_get C (pc := 21) 25 (by decide) rfl rfl 10 (by decide) rfl rfl hi_X8_thorns_RX8 lk_X8_thorns_28 dX8_thorns_21 ?_
        refine go_iload3 C (pc := 24) dX8_thorns_24 ?_
        refine go_ialdN C (pc := 25) arr_32 (i := x) (by omega) dX8_thorns_25 ?_
        refine go_top (y := trE th n k x) (hX x hx) ?_
        refine go_ciS1 C (pc := 26) (c_X8_bits C.fl C.ok _ _ ) gX8_thorns_X8_bits rfl yok_X8_bits ⟨rfl, rfl⟩ ⟨Nat.le_of_ble_eq_true rfl, Nat.le_of_ble_eq_true rfl⟩ (Nat.le_of_ble_eq_true rfl) ⟨Nat.zero_le _, Nat.zero_le _⟩ dX8_thorns_26 (fun r3 μ3 hc3 => ?_)
        obtain ⟨rfl, hm3⟩ := hc3
        replace hm3 := hm3.symm
        subst hm3
        refine go_iadd C (pc := 29) dX8_thorns_29 ?_
        refine go_istore2 C (pc := 30) dX8_thorns_30 ?_
        refine go_iinc3 C (pc := 31) (v := 1) dX8_thorns_31 (by decide) ?_
        refine go_goto C (pc := 34) (tgt := 9) dX8_thorns_34 (by decide) ?_
        exact go_lv (by simp only [sumI]; rw [nI_1]) ih
  refine go_aload0 C (pc := 0) dX8_thorns_0 ?_
  refine go_iload1 C (pc := 1) dX8_thorns_1 ?_
  refine go_cvV1 C (pc := 2) obj_25 (c_X8_trusses C.fl C.ok _ _ hM hT hk) gX8_thorns_X8_trusses rfl rfl yok_X8_trusses ⟨rfl, rfl⟩ ⟨Nat.le_of_ble_eq_true rfl, Nat.le_of_ble_eq_true rfl⟩ (Nat.le_of_ble_eq_true rfl) ⟨Nat.zero_le _, Nat.zero_le _⟩ dX8_thorns_2 (fun μ4 hc4 => ?_)
  obtain ⟨Y, rfl, hX⟩ := hc4
  refine go_iconst C (pc := 5) (v := 0) (by decide) dX8_thorns_5 ?_
  refine go_istore2 C (pc := 6) dX8_thorns_6 ?_
  refine go_iconst C (pc := 7) (v := 0) (by decide) dX8_thorns_7 ?_
  refine go_istore3 C (pc := 8) dX8_thorns_8 ?_
  exact go_lv (by rw [nI_0]; rfl) (key Y hX 0 (Nat.zero_le _))

theorem yok_X8_trussSize : yOK yX8_trussSize 1 := by unfold yOK; decide +kernel
set_option maxRecDepth 20000 in
set_option maxHeartbeats 4000000 in
theorem c_X8_trussSize {l : Launch} {D : va_G} {ad : Nat → Nat} {cI cL : ClassId} (hfl : l.flags = flags0) (hok : adOK ad) (μ : Mem) (p0 : Int32) {n : Nat} {pr : Int32} {th : Nat → Int32} (hM : Mo μ n pr th) (hT : TV n pr th) : CtI l D ad cI cL yX8_trussSize wsX8_trussSize (RM 4 91) [.ref (ad 25), .int p0] μ (fun (r : Int32) (μ' : Mem) => ((inR p0 0 15 = false ∧ μ' 25 7 = 1) ∨ ∃ k, k ≤ 15 ∧ p0 = nI k ∧ (r = trS th n k) ∧ μ' 25 7 = 0) ∧ kp μ μ' [25, 32]) := by
  refine ct_i (cc := cX8_trussSize) (maxL := 2) (own := RX8) .int hfl hok (by decide) rfl rfl rfl (Nat.le_of_ble_eq_true rfl) (fun p e s m below meth c C hr => ?_)
  refine go_lv (lv' := [some (.ref (ad 25)), some (.int p0)]) rfl ?_
  obtain ⟨hs0, hs1, hth⟩ := id hM
  have hn := hT.1
  refine go_aload0 C (pc := 0) dX8_trussSize_0 ?_
  refine go_iload1 C (pc := 1) dX8_trussSize_1 ?_
  refine go_ciV1 C (pc := 2) obj_25 (c_X8_isDepth C.fl C.ok _ _ ) gX8_trussSize_X8_isDepth rfl rfl yok_X8_isDepth ⟨rfl, rfl⟩ ⟨Nat.le_of_ble_eq_true rfl, Nat.le_of_ble_eq_true rfl⟩ (Nat.le_of_ble_eq_true rfl) ⟨Nat.zero_le _, Nat.zero_le _⟩ dX8_trussSize_2 (fun r1 μ1 hc1 => ?_)
  obtain ⟨rfl, hm1⟩ := hc1
  replace hm1 := hm1.symm
  subst hm1
  refine go_if_eq C (pc := 5) (tgt := 16) dX8_trussSize_5 (by decide) (fun h5 => ?_) (fun h5 => ?_)
  · refine go_iconst C (pc := 16) (v := 0) (by decide) dX8_trussSize_16 ?_
    exact go_iret C hr dX8_trussSize_17 (⟨Or.inl (cdK_no (dnz h5)), ⟨⟨rfl, rfl, rfl⟩, (by repeat' (first | exact same_rf | refine same_ms ?_ (by decide)))⟩⟩)
  · have hcd := dz h5
    obtain ⟨k, hk, rfl⟩ := cdK_ex hcd
    refine go_aload0 C (pc := 8) dX8_trussSize_8 ?_
    refine go_iload1 C (pc := 9) dX8_trussSize_9 ?_
    refine go_ciV1 C (pc := 10) obj_25 (c_X8_thorns C.fl C.ok _ _ hM hT (by omega)) gX8_trussSize_X8_thorns rfl rfl yok_X8_thorns ⟨rfl, rfl⟩ ⟨Nat.le_of_ble_eq_true rfl, Nat.le_of_ble_eq_true rfl⟩ (Nat.le_of_ble_eq_true rfl) ⟨Nat.zero_le _, Nat.zero_le _⟩ dX8_trussSize_10 (fun r3 μ3 hc3 => ?_)
    obtain ⟨rfl, Y, rfl⟩ := hc3
    refine go_goto C (pc := 13) (tgt := 17) dX8_trussSize_13 (by decide) ?_
    exact go_iret C hr dX8_trussSize_17 (⟨Or.inr ⟨k, hk, rfl, rfl, hcd⟩, ⟨⟨rfl, rfl, rfl⟩, (by repeat' (first | exact same_rf | refine same_ms ?_ (by decide)))⟩⟩)

theorem yok_X8_truss : yOK yX8_truss 2 := by unfold yOK; decide +kernel
theorem hi_X8_truss_RX8 : ∀ w ∈ wsX80, w ∈ wsX8_truss := by decide +kernel
theorem lk_X8_truss_28 : Cond.fieldLink RX8 28 "ThornCoresModel" "bound" "[I" ∈ wsX8_truss := by decide +kernel
set_option maxRecDepth 20000 in
set_option maxHeartbeats 4000000 in
theorem c_X8_truss {l : Launch} {D : va_G} {ad : Nat → Nat} {cI cL : ClassId} (hfl : l.flags = flags0) (hok : adOK ad) (μ : Mem) (p0 p1 : Int32) {n : Nat} {pr : Int32} {th : Nat → Int32} (hM : Mo μ n pr th) (hT : TV n pr th) : CtI l D ad cI cL yX8_truss wsX8_truss (RM 3 68) [.ref (ad 25), .int p0, .int p1] μ (fun (r : Int32) (μ' : Mem) => ((¬ cdT (nI n) th p0 p1 = 0 ∧ μ' 25 7 = cdT (nI n) th p0 p1) ∨ ∃ i1 j1, i1 < n ∧ j1 < n ∧ bt (th i1) j1 = true ∧ p0 = nI i1 ∧ p1 = nI j1 ∧ (r = nI (trN th n i1 j1)) ∧ μ' 25 7 = 0) ∧ kp μ μ' [25, 32]) := by
  refine ct_i (cc := cX8_truss) (maxL := 4) (own := RX8) .int hfl hok (by decide) rfl rfl rfl (Nat.le_of_ble_eq_true rfl) (fun p e s m below meth c C hr => ?_)
  refine go_lv (lv' := [some (.ref (ad 25)), some (.int p0), some (.int p1), none]) rfl ?_
  obtain ⟨hs0, hs1, hth⟩ := id hM
  have hn := hT.1
  refine go_aload0 C (pc := 0) dX8_truss_0 ?_
  refine go_iload1 C (pc := 1) dX8_truss_1 ?_
  refine go_iload2 C (pc := 2) dX8_truss_2 ?_
  refine go_ciV2 C (pc := 3) obj_25 (c_X8_isThorn C.fl C.ok _ _ _ hM hT) gX8_truss_X8_isThorn rfl rfl yok_X8_isThorn ⟨rfl, rfl⟩ ⟨Nat.le_of_ble_eq_true rfl, Nat.le_of_ble_eq_true rfl⟩ (Nat.le_of_ble_eq_true rfl) ⟨Nat.zero_le _, Nat.zero_le _⟩ dX8_truss_3 (fun r6 μ6 hc6 => ?_)
  obtain ⟨rfl, hm6⟩ := hc6
  replace hm6 := hm6.symm
  subst hm6
  refine go_if_ne C (pc := 6) (tgt := 11) dX8_truss_6 (by decide) (fun h6 => ?_) (fun h6 => ?_)
  · have hcd := dz h6
    obtain ⟨i, j, hi, hj, hb, rfl, rfl⟩ := cdT_ex hT hcd
    have key : ∀ k, k ≤ 15 → ∀ Y, agr n Y (trE th n (k + 1)) → (∀ z, z ≤ k → bt (trE th n z i) j = true) → Go p l e (headSpec wsX8_truss (RM 3 68)).room s m ([.ref (ad 25), .int (nI i), .int (nI j)] : List Value).toArray below meth c 0 0 (MQ below (va_Qi (fun (r : Int32) (μ' : Mem) => ((¬ cdT (nI n) th (nI i) (nI j) = 0 ∧ μ' 25 7 = cdT (nI n) th (nI i) (nI j)) ∨ ∃ i1 j1, i1 < n ∧ j1 < n ∧ bt (th i1) j1 = true ∧ (nI i) = nI i1 ∧ (nI j) = nI j1 ∧ (r = nI (trN th n i1 j1)) ∧ μ' 25 7 = 0) ∧ kp μ μ' [25, 32]) (fun μ' t => PreW D ad cI cL μ' t) (AW ad)) ([.ref (ad 25), .int (nI i), .int (nI j)] : List Value).toArray s 0 0 (AW ad)) (AW ad) D ad cI cL 4 18 [some (.ref (ad 25)), some (.int (nI i)), some (.int (nI j)), some (.int (nI k))] [] (mset (mset μ 25 (upd (μ 25) 7 (cdT (nI n) th (nI i) (nI j)))) 32 Y) := by
      refine dn_ind ?_ ?_
      · intro Y hX hz
        have hk : 15 ≤ 15 := Nat.le_refl _
        refine go_aload0 C (pc := 18) dX8_truss_18 ?_
        refine go_get C (pc := 19) 25 (by decide) rfl rfl 10 (by decide) rfl rfl hi_X8_truss_RX8 lk_X8_truss_28 dX8_truss_19 ?_
        refine go_iload1 C (pc := 22) dX8_truss_22 ?_
        refine go_ialdN C (pc := 23) arr_32 (i := i) (by omega) dX8_truss_23 ?_
        refine go_top (y := trE th n (15 + 1) i) (hX i hi) ?_
        refine go_iload2 C (pc := 24) dX8_truss_24 ?_
        refine go_ciS2 C (pc := 25) (c_X8_has C.fl C.ok _ _ _ (by omega)) gX8_truss_X8_has rfl yok_X8_has ⟨rfl, rfl⟩ ⟨Nat.le_of_ble_eq_true rfl, Nat.le_of_ble_eq_true rfl⟩ (Nat.le_of_ble_eq_true rfl) ⟨Nat.zero_le _, Nat.zero_le _⟩ dX8_truss_25 (fun r1 μ1 hc1 => ?_)
        obtain ⟨rfl, hm1⟩ := hc1
        replace hm1 := hm1.symm
        subst hm1
        refine go_if_eq C (pc := 28) (tgt := 44) dX8_truss_28 (by decide) (fun h28 => ?_) (fun h28 => ?_)
        · refine go_iload3 C (pc := 44) dX8_truss_44 ?_
          exact go_iret C hr dX8_truss_45 (⟨Or.inr ⟨i, j, hi, hj, hb, rfl, rfl, by rw [trN_up hT (by omega) hb hz hk (bpos h28)], hcd⟩, ⟨⟨rfl, rfl, rfl⟩, (by repeat' (first | exact same_rf | refine same_ms ?_ (by decide)))⟩⟩)
        · exact absurd (bneg h28) (by rw [tr_16 hT (show i < 16 by omega) (k := 15 + 1) (j := j) (by decide)]; decide)
      · intro k hk1 ih Y hX hz
        have hk : k ≤ 15 := Nat.le_of_lt hk1
        refine go_aload0 C (pc := 18) dX8_truss_18 ?_
        refine go_get C (pc := 19) 25 (by decide) rfl rfl 10 (by decide) rfl rfl hi_X8_truss_RX8 lk_X8_truss_28 dX8_truss_19 ?_
        refine go_iload1 C (pc := 22) dX8_truss_22 ?_
        refine go_ialdN C (pc := 23) arr_32 (i := i) (by omega) dX8_truss_23 ?_
        refine go_top (y := trE th n (k + 1) i) (hX i hi) ?_
        refine go_iload2 C (pc := 24) dX8_truss_24 ?_
        refine go_ciS2 C (pc := 25) (c_X8_has C.fl C.ok _ _ _ (by omega)) gX8_truss_X8_has rfl yok_X8_has ⟨rfl, rfl⟩ ⟨Nat.le_of_ble_eq_true rfl, Nat.le_of_ble_eq_true rfl⟩ (Nat.le_of_ble_eq_true rfl) ⟨Nat.zero_le _, Nat.zero_le _⟩ dX8_truss_25 (fun r3 μ3 hc3 => ?_)
        obtain ⟨rfl, hm3⟩ := hc3
        replace hm3 := hm3.symm
        subst hm3
        refine go_if_eq C (pc := 28) (tgt := 44) dX8_truss_28 (by decide) (fun h28 => ?_) (fun h28 => ?_)
        · refine go_iload3 C (pc := 44) dX8_truss_44 ?_
          exact go_iret C hr dX8_truss_45 (⟨Or.inr ⟨i, j, hi, hj, hb, rfl, rfl, by rw [trN_up hT (by omega) hb hz hk (bpos h28)], hcd⟩, ⟨⟨rfl, rfl, rfl⟩, (by repeat' (first | exact same_rf | refine same_ms ?_ (by decide)))⟩⟩)
        · refine go_iinc3 C (pc := 31) (v := 1) dX8_truss_31 (by decide) ?_
          refine go_lv (lv' := [some (.ref (ad 25)), some (.int (nI i)), some (.int (nI j)), some (.int (nI (k + 1)))]) (by rw [nI_1]) ?_
          refine go_aload0 C (pc := 34) dX8_truss_34 ?_
          refine go_iload3 C (pc := 35) dX8_truss_35 ?_
          refine go_iconst C (pc := 36) (v := 1) (by decide) dX8_truss_36 ?_
          refine go_iadd C (pc := 37) dX8_truss_37 ?_
          refine go_top (y := nI (k + 1 + 1)) (nI_1 _) ?_
          refine go_cvV1 C (pc := 38) obj_25 (c_X8_trusses C.fl C.ok _ _ hM hT (by omega)) gX8_truss_X8_trusses rfl rfl yok_X8_trusses ⟨rfl, rfl⟩ ⟨Nat.le_of_ble_eq_true rfl, Nat.le_of_ble_eq_true rfl⟩ (Nat.le_of_ble_eq_true rfl) ⟨Nat.zero_le _, Nat.zero_le _⟩ dX8_truss_38 (fun μ5 hc5 => ?_)
          obtain ⟨Y2, rfl, hX2⟩ := hc5
          refine go_goto C (pc := 41) (tgt := 18) dX8_truss_41 (by decide) ?_
          exact go_mem (show _ = mset (mset μ 25 (upd (μ 25) 7 (cdT (nI n) th (nI i) (nI j)))) 32 Y2 from by rw [mset_mset]) (ih Y2 hX2 (fun z h => by
            rcases Nat.lt_or_ge k z with w | w
            · rw [show z = k + 1 by omega]; exact bneg h28
            · exact hz z w))
    refine go_iconst C (pc := 11) (v := 0) (by decide) dX8_truss_11 ?_
    refine go_istore3 C (pc := 12) dX8_truss_12 ?_
    refine go_aload0 C (pc := 13) dX8_truss_13 ?_
    refine go_iconst C (pc := 14) (v := 1) (by decide) dX8_truss_14 ?_
    refine go_top (y := nI 1) rfl ?_
    refine go_cvV1 C (pc := 15) obj_25 (c_X8_trusses C.fl C.ok _ _ hM hT (by omega)) gX8_truss_X8_trusses rfl rfl yok_X8_trusses ⟨rfl, rfl⟩ ⟨Nat.le_of_ble_eq_true rfl, Nat.le_of_ble_eq_true rfl⟩ (Nat.le_of_ble_eq_true rfl) ⟨Nat.zero_le _, Nat.zero_le _⟩ dX8_truss_15 (fun μ8 hc8 => ?_)
    obtain ⟨Y, rfl, hX⟩ := hc8
    exact go_lv (by rw [nI_0]) (key 0 (by decide) Y hX (fun z h => by rw [show z = 0 by omega, tr_all hT (show i < 16 by omega)]; exact hb))
  · refine go_iconst C (pc := 9) (v := 0) (by decide) dX8_truss_9 ?_
    exact go_iret C hr dX8_truss_10 (⟨Or.inl ⟨dnz h6, rfl⟩, ⟨⟨rfl, rfl, rfl⟩, (by repeat' (first | exact same_rf | refine same_ms ?_ (by decide)))⟩⟩)

theorem yok_X8_trussOf : yOK yX8_trussOf 2 := by unfold yOK; decide +kernel
set_option maxRecDepth 20000 in
set_option maxHeartbeats 4000000 in
theorem c_X8_trussOf {l : Launch} {D : va_G} {ad : Nat → Nat} {cI cL : ClassId} (hfl : l.flags = flags0) (hok : adOK ad) (μ : Mem) (p0 p1 : Int32) {n : Nat} {pr : Int32} {th : Nat → Int32} (hM : Mo μ n pr th) (hT : TV n pr th) : CtI l D ad cI cL yX8_trussOf wsX8_trussOf (RM 4 91) [.ref (ad 25), .int p0, .int p1] μ (fun (r : Int32) (μ' : Mem) => ((¬ cdT (nI n) th p0 p1 = 0 ∧ μ' 25 7 = cdT (nI n) th p0 p1) ∨ ∃ i1 j1, i1 < n ∧ j1 < n ∧ bt (th i1) j1 = true ∧ p0 = nI i1 ∧ p1 = nI j1 ∧ (r = nI (trN th n i1 j1)) ∧ μ' 25 7 = 0) ∧ kp μ μ' [25, 32]) := by
  refine ct_i (cc := cX8_trussOf) (maxL := 3) (own := RX8) .int hfl hok (by decide) rfl rfl rfl (Nat.le_of_ble_eq_true rfl) (fun p e s m below meth c C hr => ?_)
  refine go_lv (lv' := [some (.ref (ad 25)), some (.int p0), some (.int p1)]) rfl ?_
  obtain ⟨hs0, hs1, hth⟩ := id hM
  have hn := hT.1
  refine go_aload0 C (pc := 0) dX8_trussOf_0 ?_
  refine go_iload1 C (pc := 1) dX8_trussOf_1 ?_
  refine go_iload2 C (pc := 2) dX8_trussOf_2 ?_
  refine go_ciV2 C (pc := 3) obj_25 (c_X8_truss C.fl C.ok _ _ _ hM hT) gX8_trussOf_X8_truss rfl rfl yok_X8_truss ⟨rfl, rfl⟩ ⟨Nat.le_of_ble_eq_true rfl, Nat.le_of_ble_eq_true rfl⟩ (Nat.le_of_ble_eq_true rfl) ⟨Nat.zero_le _, Nat.zero_le _⟩ dX8_trussOf_3 (fun r1 μ1 hc1 => ?_)
  have hcc := hc1
  exact go_iret C hr dX8_trussOf_6 (hcc)

theorem yok_X8_trussByRounds : yOK yX8_trussByRounds 2 := by unfold yOK; decide +kernel
set_option maxRecDepth 20000 in
set_option maxHeartbeats 4000000 in
theorem c_X8_trussByRounds {l : Launch} {D : va_G} {ad : Nat → Nat} {cI cL : ClassId} (hfl : l.flags = flags0) (hok : adOK ad) (μ : Mem) (p0 p1 : Int32) {n : Nat} {pr : Int32} {th : Nat → Int32} (hM : Mo μ n pr th) (hT : TV n pr th) : CtI l D ad cI cL yX8_trussByRounds wsX8_trussByRounds (RM 4 91) [.ref (ad 25), .int p0, .int p1] μ (fun (r : Int32) (μ' : Mem) => ((¬ cdT (nI n) th p0 p1 = 0 ∧ μ' 25 7 = cdT (nI n) th p0 p1) ∨ ∃ i1 j1, i1 < n ∧ j1 < n ∧ bt (th i1) j1 = true ∧ p0 = nI i1 ∧ p1 = nI j1 ∧ (r = nI (trN th n i1 j1)) ∧ μ' 25 7 = 0) ∧ kp μ μ' [25, 32]) := by
  refine ct_i (cc := cX8_trussByRounds) (maxL := 3) (own := RX8) .int hfl hok (by decide) rfl rfl rfl (Nat.le_of_ble_eq_true rfl) (fun p e s m below meth c C hr => ?_)
  refine go_lv (lv' := [some (.ref (ad 25)), some (.int p0), some (.int p1)]) rfl ?_
  obtain ⟨hs0, hs1, hth⟩ := id hM
  have hn := hT.1
  refine go_aload0 C (pc := 0) dX8_trussByRounds_0 ?_
  refine go_iload1 C (pc := 1) dX8_trussByRounds_1 ?_
  refine go_iload2 C (pc := 2) dX8_trussByRounds_2 ?_
  refine go_ciV2 C (pc := 3) obj_25 (c_X8_truss C.fl C.ok _ _ _ hM hT) gX8_trussByRounds_X8_truss rfl rfl yok_X8_truss ⟨rfl, rfl⟩ ⟨Nat.le_of_ble_eq_true rfl, Nat.le_of_ble_eq_true rfl⟩ (Nat.le_of_ble_eq_true rfl) ⟨Nat.zero_le _, Nat.zero_le _⟩ dX8_trussByRounds_3 (fun r1 μ1 hc1 => ?_)
  have hcc := hc1
  exact go_iret C hr dX8_trussByRounds_6 (hcc)

