/-! ===== ThornCoresModel: cores ===== -/
def lfI (th : Nat → Int32) (pr : Int32) (k : Nat) (L S0 S : Int32) (p : Nat) : Prop :=
  sm S ∧ sub S S0 ∧ sub (coreI th pr k L) S ∧ ((S = S0 ∧ ∀ x, x < p → bt S x = true → bt pr x = true ∨ k ≤ ct (th x &&& S)) ∨ ct S < ct S0)
theorem lf_0 {th : Nat → Int32} {pr : Int32} {k : Nat} {L S : Int32} (h1 : sm S) (h2 : sub (coreI th pr k L) S) : lfI th pr k L S S 0 :=
  ⟨h1, fun _ h => h, h2, Or.inl ⟨rfl, fun x hx => absurd hx (Nat.not_lt_zero x)⟩⟩
theorem lf_keep {th : Nat → Int32} {pr : Int32} {k : Nat} {L S0 S : Int32} {p : Nat} (h : lfI th pr k L S0 S p) (hp : bt S p = true → bt pr p = true ∨ k ≤ ct (th p &&& S)) : lfI th pr k L S0 S (p + 1) := by
  obtain ⟨h1, h2, h3, h4⟩ := h
  refine ⟨h1, h2, h3, h4.imp (fun q => ⟨q.1, fun x hx => ?_⟩) id⟩
  rcases Nat.lt_or_ge x p with w | w
  · exact q.2 x w
  · rw [show x = p by omega]; exact hp
theorem lf_drop {th : Nat → Int32} {pr : Int32} {k : Nat} {L S0 S : Int32} {p : Nat} (hL : sm L) (h : lfI th pr k L S0 S p) (hp : p < 16) (hb : bt S p = true) (hu : bt pr p = false) (hk : ct (th p &&& S) < k) : lfI th pr k L S0 (S &&& (bitI (nI p) ^^^ (-1))) (p + 1) := by
  obtain ⟨h1, h2, h3, h4⟩ := h
  have hc := ct_clear h1 hp hb
  have hle : ct S ≤ ct S0 := h4.elim (fun q => by rw [q.1]; exact Nat.le_refl _) Nat.le_of_lt
  refine ⟨sm_and _ h1, fun i hi => ?_, fun i hi => ?_, Or.inr (by omega)⟩
  · rw [bt_clear h1 hp, Bool.and_eq_true] at hi
    exact h2 i hi.1
  · rw [bt_clear h1 hp, h3 i hi, Bool.true_and]
    by_cases e : i = p
    · exfalso
      subst e
      rcases core_cl hL i hp hi with q | q
      · rw [hu] at q; cases q
      · have := ct_and_sub (x := th i) h3
        omega
    · simp [e]
theorem lf_end {n : Nat} {th : Nat → Int32} {pr : Int32} {k : Nat} {L S0 S : Int32} (hL : sm L) (hLn : sub L (allI n)) (hn : n ≤ 16) (hS0 : sub S0 L) (h : lfI th pr k L S0 S n) : (S = S0 ∧ S = coreI th pr k L) ∨ ct S < ct S0 := by
  obtain ⟨h1, h2, h3, h4⟩ := h
  refine h4.imp (fun q => ⟨q.1, ?_⟩) id
  have hSL : sub S L := fun i hi => hS0 i (h2 i hi)
  exact sub_anti (core_max h1 hSL (fun i hi hb => q.2 i (by
    have := hLn i (hSL i hb)
    rw [bt_all hn] at this
    exact of_decide_eq_true this) hb)) h3
theorem sm_m1 {S : Int32} (h : sm S) : ¬ (-1 : Int32) = S := fun e => by
  have := h 20 (by decide)
  rw [← e, b_m1 20 (by decide)] at this
  cases this
theorem yok_X8_left : yOK yX8_left 3 := by unfold yOK; decide +kernel
theorem hi_X8_left_RX8 : ∀ w ∈ wsX80, w ∈ wsX8_left := by decide +kernel
theorem lk_X8_left_7 : Cond.fieldLink RX8 7 "ThornCoresModel" "s" "[I" ∈ wsX8_left := by decide +kernel
set_option maxRecDepth 20000 in
set_option maxHeartbeats 4000000 in
theorem c_X8_left {l : Launch} {D : va_G} {ad : Nat → Nat} {cI cL : ClassId} (hfl : l.flags = flags0) (hok : adOK ad) (μ : Mem) (L pq : Int32) (k : Nat) {n : Nat} {pr : Int32} {th : Nat → Int32} (hM : Mo μ n pr th) (hT : TV n pr th) (hL : sm L) (hLn : sub L (allI n)) (hk : k ≤ 16) : CtI l D ad cI cL yX8_left wsX8_left (RM 1 22) [.ref (ad 25), .int L, .int (nI k), .int pq] μ (fun (r : Int32) (μ' : Mem) => r = coreI th pq k L ∧ μ' = μ) := by
  refine ct_i (cc := cX8_left) (maxL := 8) (own := RX8) .int hfl hok (by decide) rfl rfl rfl (Nat.le_of_ble_eq_true rfl) (fun p e s m below meth c C hr => ?_)
  refine go_lv (lv' := [some (.ref (ad 25)), some (.int L), some (.int (nI k)), some (.int pq), none, none, none, none]) rfl ?_
  obtain ⟨hs0, hs1, hth⟩ := id hM
  have hn := hT.1
  have key0 : Go p l e (headSpec wsX8_left (RM 1 22)).room s m ([.ref (ad 25), .int L, .int (nI k), .int pq] : List Value).toArray below meth c 0 0 (MQ below (va_Qi (fun (r : Int32) (μ' : Mem) => r = coreI th pq k L ∧ μ' = μ) (fun μ' t => PreW D ad cI cL μ' t) (AW ad)) ([.ref (ad 25), .int L, .int (nI k), .int pq] : List Value).toArray s 0 0 (AW ad)) (AW ad) D ad cI cL 8 6 [some (.ref (ad 25)), some (.int L), some (.int (nI k)), some (.int pq), some (.int (coreI th pq k L)), some (.int (coreI th pq k L)), none, none] [] (μ) := by
    refine go_iload5 C (pc := 6) dX8_left_6 ?_
    refine go_iload4 C (pc := 8) dX8_left_8 ?_
    refine go_icmp_eq C (pc := 10) (tgt := 106) dX8_left_10 (by decide) (fun h10 => ?_) (fun h10 => ?_)
    · refine go_iload4 C (pc := 106) dX8_left_106 ?_
      exact go_iret C hr dX8_left_108 (⟨rfl, rfl⟩)
    · exact absurd rfl h10
  have key : ∀ f S W, ct S < f → sm S → sub S L → sub (coreI th pq k L) S → ¬ W = S → Go p l e (headSpec wsX8_left (RM 1 22)).room s m ([.ref (ad 25), .int L, .int (nI k), .int pq] : List Value).toArray below meth c 0 0 (MQ below (va_Qi (fun (r : Int32) (μ' : Mem) => r = coreI th pq k L ∧ μ' = μ) (fun μ' t => PreW D ad cI cL μ' t) (AW ad)) ([.ref (ad 25), .int L, .int (nI k), .int pq] : List Value).toArray s 0 0 (AW ad)) (AW ad) D ad cI cL 8 6 [some (.ref (ad 25)), some (.int L), some (.int (nI k)), some (.int pq), some (.int S), some (.int W), none, none] [] (μ) := by
    intro f
    induction f with
    | zero => exact fun S W hf => absurd hf (Nat.not_lt_zero _)
    | succ f ih =>
      intro S0 W hf hS hSL hSc hWS
      have key2 : ∀ x, x ≤ n → ∀ S, lfI th pq k L S0 S x → Go p l e (headSpec wsX8_left (RM 1 22)).room s m ([.ref (ad 25), .int L, .int (nI k), .int pq] : List Value).toArray below meth c 0 0 (MQ below (va_Qi (fun (r : Int32) (μ' : Mem) => r = coreI th pq k L ∧ μ' = μ) (fun μ' t => PreW D ad cI cL μ' t) (AW ad)) ([.ref (ad 25), .int L, .int (nI k), .int pq] : List Value).toArray s 0 0 (AW ad)) (AW ad) D ad cI cL 8 20 [some (.ref (ad 25)), some (.int L), some (.int (nI k)), some (.int pq), some (.int S), some (.int S0), some (.int (nI x)), none] [] (μ) := by
        refine dn_ind ?_ ?_
        · intro S hI
          refine go_iload6 C (pc := 20) dX8_left_20 ?_
          refine go_aload0 C (pc := 22) dX8_left_22 ?_
          refine go_get C (pc := 23) 25 (by decide) rfl rfl 0 (by decide) rfl rfl hi_X8_left_RX8 lk_X8_left_7 dX8_left_23 ?_
          refine go_iconst C (pc := 26) (v := 0) (by decide) dX8_left_26 ?_
          refine go_top (y := nI 0) (by first | rfl | decide +kernel) ?_
          refine go_ialdN C (pc := 27) arr_26 (i := 0) (by omega) dX8_left_27 ?_
          refine go_top (y := nI n) hs0 ?_
          refine go_icmp_ge C (pc := 28) (tgt := 103) dX8_left_28 (by decide) (fun h28 => ?_) (fun h28 => ?_)
          · refine go_goto C (pc := 103) (tgt := 6) dX8_left_103 (by decide) ?_
            exact go_drop6 (by
              rcases lf_end hL hLn hn hSL hI with ⟨e1, e2⟩ | hlt
              · subst e1
                rw [e2]; exact key0
              · exact ih S S0 (by omega) hI.1 (fun i hi => hSL i (hI.2.1 i hi)) hI.2.2.1 (fun e => by rw [e] at hlt; exact Nat.lt_irrefl _ hlt))
          · exact absurd (nI_le (Nat.le_refl _) (by omega)) h28
        · intro x hx ih2 S hI
          have hSs := hI.1
          refine go_iload6 C (pc := 20) dX8_left_20 ?_
          refine go_aload0 C (pc := 22) dX8_left_22 ?_
          refine go_get C (pc := 23) 25 (by decide) rfl rfl 0 (by decide) rfl rfl hi_X8_left_RX8 lk_X8_left_7 dX8_left_23 ?_
          refine go_iconst C (pc := 26) (v := 0) (by decide) dX8_left_26 ?_
          refine go_top (y := nI 0) (by first | rfl | decide +kernel) ?_
          refine go_ialdN C (pc := 27) arr_26 (i := 0) (by omega) dX8_left_27 ?_
          refine go_top (y := nI n) hs0 ?_
          refine go_icmp_ge C (pc := 28) (tgt := 103) dX8_left_28 (by decide) (fun h28 => ?_) (fun h28 => ?_)
          · exact absurd h28 (nI_ge hx (by omega))
          · refine go_iload4 C (pc := 31) dX8_left_31 ?_
            refine go_iload6 C (pc := 33) dX8_left_33 ?_
            refine go_ciS2 C (pc := 35) (c_X8_has C.fl C.ok _ _ _ (by omega)) gX8_left_X8_has rfl yok_X8_has ⟨rfl, rfl⟩ ⟨Nat.le_of_ble_eq_true rfl, Nat.le_of_ble_eq_true rfl⟩ (Nat.le_of_ble_eq_true rfl) ⟨Nat.zero_le _, Nat.zero_le _⟩ dX8_left_35 (fun r4 μ4 hc4 => ?_)
            obtain ⟨rfl, hm4⟩ := hc4
            replace hm4 := hm4.symm
            subst hm4
            refine go_if_eq C (pc := 38) (tgt := 73) dX8_left_38 (by decide) (fun h38 => ?_) (fun h38 => ?_)
            · refine go_iconst C (pc := 73) (v := 0) (by decide) dX8_left_73 ?_
              refine go_istore7 C (pc := 74) dX8_left_74 ?_
              refine go_iload7 C (pc := 76) dX8_left_76 ?_
              refine go_if_eq C (pc := 78) (tgt := 93) dX8_left_78 (by decide) (fun h78 => ?_) (fun h78 => ?_)
              · refine go_iload4 C (pc := 93) dX8_left_93 ?_
                refine go_istore4 C (pc := 95) dX8_left_95 ?_
                refine go_iinc6 C (pc := 97) (v := 1) dX8_left_97 (by decide) ?_
                refine go_goto C (pc := 100) (tgt := 20) dX8_left_100 (by decide) ?_
                exact go_drop7 (go_lv (by rw [nI_1]) (ih2 _ (lf_keep hI (fun q => by rw [bpos h38] at q; cases q))))
              · refine go_iload4 C (pc := 81) dX8_left_81 ?_
                refine go_iconst C (pc := 83) (v := 1) (by decide) dX8_left_83 ?_
                refine go_iload6 C (pc := 84) dX8_left_84 ?_
                refine go_ishl C (pc := 86) dX8_left_86 ?_
                refine go_iconst C (pc := 87) (v := -1) (by decide) dX8_left_87 ?_
                refine go_ixor C (pc := 88) dX8_left_88 ?_
                refine go_iand C (pc := 89) dX8_left_89 ?_
                refine go_goto C (pc := 90) (tgt := 95) dX8_left_90 (by decide) ?_
                refine go_istore4 C (pc := 95) dX8_left_95 ?_
                refine go_iinc6 C (pc := 97) (v := 1) dX8_left_97 (by decide) ?_
                refine go_goto C (pc := 100) (tgt := 20) dX8_left_100 (by decide) ?_
                exact absurd rfl (show ¬ (0 : Int32) = 0 from h78)
            · refine go_iload3 C (pc := 41) dX8_left_41 ?_
              refine go_iload6 C (pc := 42) dX8_left_42 ?_
              refine go_ciS2 C (pc := 44) (c_X8_has C.fl C.ok _ _ _ (by omega)) gX8_left_X8_has rfl yok_X8_has ⟨rfl, rfl⟩ ⟨Nat.le_of_ble_eq_true rfl, Nat.le_of_ble_eq_true rfl⟩ (Nat.le_of_ble_eq_true rfl) ⟨Nat.zero_le _, Nat.zero_le _⟩ dX8_left_44 (fun r7 μ7 hc7 => ?_)
              obtain ⟨rfl, hm7⟩ := hc7
              replace hm7 := hm7.symm
              subst hm7
              refine go_if_ne C (pc := 47) (tgt := 73) dX8_left_47 (by decide) (fun h47 => ?_) (fun h47 => ?_)
              · refine go_iconst C (pc := 73) (v := 0) (by decide) dX8_left_73 ?_
                refine go_istore7 C (pc := 74) dX8_left_74 ?_
                refine go_iload7 C (pc := 76) dX8_left_76 ?_
                refine go_if_eq C (pc := 78) (tgt := 93) dX8_left_78 (by decide) (fun h78 => ?_) (fun h78 => ?_)
                · refine go_iload4 C (pc := 93) dX8_left_93 ?_
                  refine go_istore4 C (pc := 95) dX8_left_95 ?_
                  refine go_iinc6 C (pc := 97) (v := 1) dX8_left_97 (by decide) ?_
                  refine go_goto C (pc := 100) (tgt := 20) dX8_left_100 (by decide) ?_
                  exact go_drop7 (go_lv (by rw [nI_1]) (ih2 _ (lf_keep hI (fun _ => Or.inl (bneg h47)))))
                · refine go_iload4 C (pc := 81) dX8_left_81 ?_
                  refine go_iconst C (pc := 83) (v := 1) (by decide) dX8_left_83 ?_
                  refine go_iload6 C (pc := 84) dX8_left_84 ?_
                  refine go_ishl C (pc := 86) dX8_left_86 ?_
                  refine go_iconst C (pc := 87) (v := -1) (by decide) dX8_left_87 ?_
                  refine go_ixor C (pc := 88) dX8_left_88 ?_
                  refine go_iand C (pc := 89) dX8_left_89 ?_
                  refine go_goto C (pc := 90) (tgt := 95) dX8_left_90 (by decide) ?_
                  refine go_istore4 C (pc := 95) dX8_left_95 ?_
                  refine go_iinc6 C (pc := 97) (v := 1) dX8_left_97 (by decide) ?_
                  refine go_goto C (pc := 100) (tgt := 20) dX8_left_100 (by decide) ?_
                  exact absurd rfl (show ¬ (0 : Int32) = 0 from h78)
              · refine go_aload0 C (pc := 50) dX8_left_50 ?_
                refine go_get C (pc := 51) 25 (by decide) rfl rfl 0 (by decide) rfl rfl hi_X8_left_RX8 lk_X8_left_7 dX8_left_51 ?_
                refine go_iconst C (pc := 54) (v := 2) (by decide) dX8_left_54 ?_
                refine go_iload6 C (pc := 55) dX8_left_55 ?_
                refine go_iadd C (pc := 57) dX8_left_57 ?_
                refine go_top (y := nI (2 + x)) (by rw [show (2 : Int32) = nI 2 from by decide +kernel, nI_add]) ?_
                refine go_ialdN C (pc := 58) arr_26 (i := (2 + x)) (by omega) dX8_left_58 ?_
                refine go_top (y := th x) (hth _ (by omega)) ?_
                refine go_iload4 C (pc := 59) dX8_left_59 ?_
                refine go_iand C (pc := 61) dX8_left_61 ?_
                refine go_ciS1 C (pc := 62) (c_X8_bits C.fl C.ok _ _ ) gX8_left_X8_bits rfl yok_X8_bits ⟨rfl, rfl⟩ ⟨Nat.le_of_ble_eq_true rfl, Nat.le_of_ble_eq_true rfl⟩ (Nat.le_of_ble_eq_true rfl) ⟨Nat.zero_le _, Nat.zero_le _⟩ dX8_left_62 (fun r10 μ10 hc10 => ?_)
                obtain ⟨rfl, hm10⟩ := hc10
                replace hm10 := hm10.symm
                subst hm10
                refine go_iload2 C (pc := 65) dX8_left_65 ?_
                refine go_icmp_ge C (pc := 66) (tgt := 73) dX8_left_66 (by decide) (fun h66 => ?_) (fun h66 => ?_)
                · refine go_iconst C (pc := 73) (v := 0) (by decide) dX8_left_73 ?_
                  refine go_istore7 C (pc := 74) dX8_left_74 ?_
                  refine go_iload7 C (pc := 76) dX8_left_76 ?_
                  refine go_if_eq C (pc := 78) (tgt := 93) dX8_left_78 (by decide) (fun h78 => ?_) (fun h78 => ?_)
                  · refine go_iload4 C (pc := 93) dX8_left_93 ?_
                    refine go_istore4 C (pc := 95) dX8_left_95 ?_
                    refine go_iinc6 C (pc := 97) (v := 1) dX8_left_97 (by decide) ?_
                    refine go_goto C (pc := 100) (tgt := 20) dX8_left_100 (by decide) ?_
                    exact go_drop7 (go_lv (by rw [nI_1]) (ih2 _ (lf_keep hI (fun _ => Or.inr (Nat.le_of_not_lt (fun q => nI_ge q (by omega) h66))))))
                  · refine go_iload4 C (pc := 81) dX8_left_81 ?_
                    refine go_iconst C (pc := 83) (v := 1) (by decide) dX8_left_83 ?_
                    refine go_iload6 C (pc := 84) dX8_left_84 ?_
                    refine go_ishl C (pc := 86) dX8_left_86 ?_
                    refine go_iconst C (pc := 87) (v := -1) (by decide) dX8_left_87 ?_
                    refine go_ixor C (pc := 88) dX8_left_88 ?_
                    refine go_iand C (pc := 89) dX8_left_89 ?_
                    refine go_goto C (pc := 90) (tgt := 95) dX8_left_90 (by decide) ?_
                    refine go_istore4 C (pc := 95) dX8_left_95 ?_
                    refine go_iinc6 C (pc := 97) (v := 1) dX8_left_97 (by decide) ?_
                    refine go_goto C (pc := 100) (tgt := 20) dX8_left_100 (by decide) ?_
                    exact absurd rfl (show ¬ (0 : Int32) = 0 from h78)
                · refine go_iconst C (pc := 69) (v := 1) (by decide) dX8_left_69 ?_
                  refine go_goto C (pc := 70) (tgt := 74) dX8_left_70 (by decide) ?_
                  refine go_istore7 C (pc := 74) dX8_left_74 ?_
                  refine go_iload7 C (pc := 76) dX8_left_76 ?_
                  refine go_if_eq C (pc := 78) (tgt := 93) dX8_left_78 (by decide) (fun h78 => ?_) (fun h78 => ?_)
                  · refine go_iload4 C (pc := 93) dX8_left_93 ?_
                    refine go_istore4 C (pc := 95) dX8_left_95 ?_
                    refine go_iinc6 C (pc := 97) (v := 1) dX8_left_97 (by decide) ?_
                    refine go_goto C (pc := 100) (tgt := 20) dX8_left_100 (by decide) ?_
                    exact absurd (show (1 : Int32) = 0 from h78) (by decide)
                  · refine go_iload4 C (pc := 81) dX8_left_81 ?_
                    refine go_iconst C (pc := 83) (v := 1) (by decide) dX8_left_83 ?_
                    refine go_iload6 C (pc := 84) dX8_left_84 ?_
                    refine go_ishl C (pc := 86) dX8_left_86 ?_
                    refine go_iconst C (pc := 87) (v := -1) (by decide) dX8_left_87 ?_
                    refine go_ixor C (pc := 88) dX8_left_88 ?_
                    refine go_iand C (pc := 89) dX8_left_89 ?_
                    refine go_goto C (pc := 90) (tgt := 95) dX8_left_90 (by decide) ?_
                    refine go_istore4 C (pc := 95) dX8_left_95 ?_
                    refine go_iinc6 C (pc := 97) (v := 1) dX8_left_97 (by decide) ?_
                    refine go_goto C (pc := 100) (tgt := 20) dX8_left_100 (by decide) ?_
                    exact go_drop7 (go_lv (by rw [nI_1]; rfl) (ih2 _ (lf_drop hL hI (by omega) (bneg h38) (bpos h47) (Nat.lt_of_not_le (fun q => h66 (nI_le q (by have := ct_le (th x &&& S); omega)))))))
      refine go_iload5 C (pc := 6) dX8_left_6 ?_
      refine go_iload4 C (pc := 8) dX8_left_8 ?_
      refine go_icmp_eq C (pc := 10) (tgt := 106) dX8_left_10 (by decide) (fun h10 => ?_) (fun h10 => ?_)
      · exact absurd h10 hWS
      · refine go_iload4 C (pc := 13) dX8_left_13 ?_
        refine go_istore5 C (pc := 15) dX8_left_15 ?_
        refine go_iconst C (pc := 17) (v := 0) (by decide) dX8_left_17 ?_
        refine go_istore6 C (pc := 18) dX8_left_18 ?_
        exact go_lv (by rw [nI_0]) (key2 0 (Nat.zero_le _) S0 (lf_0 hS hSc))
  refine go_iload1 C (pc := 0) dX8_left_0 ?_
  refine go_istore4 C (pc := 1) dX8_left_1 ?_
  refine go_iconst C (pc := 3) (v := -1) (by decide) dX8_left_3 ?_
  refine go_istore5 C (pc := 4) dX8_left_4 ?_
  exact key (ct L + 1) L (-1) (Nat.lt_succ_self _) hL (fun _ h => h) core_sub (sm_m1 hL)

theorem yok_X8_cored : yOK yX8_cored 1 := by unfold yOK; decide +kernel
theorem hi_X8_cored_RX8 : ∀ w ∈ wsX80, w ∈ wsX8_cored := by decide +kernel
theorem lk_X8_cored_7 : Cond.fieldLink RX8 7 "ThornCoresModel" "s" "[I" ∈ wsX8_cored := by decide +kernel
set_option maxRecDepth 20000 in
set_option maxHeartbeats 4000000 in
theorem c_X8_cored {l : Launch} {D : va_G} {ad : Nat → Nat} {cI cL : ClassId} (hfl : l.flags = flags0) (hok : adOK ad) (μ : Mem) (k : Nat) {n : Nat} {pr : Int32} {th : Nat → Int32} (hM : Mo μ n pr th) (hT : TV n pr th) (hk : k ≤ 16) : CtI l D ad cI cL yX8_cored wsX8_cored (RM 2 49) [.ref (ad 25), .int (nI k)] μ (fun (r : Int32) (μ' : Mem) => r = coreI th pr k (allI n) ∧ μ' = μ) := by
  refine ct_i (cc := cX8_cored) (maxL := 2) (own := RX8) .int hfl hok (by decide) rfl rfl rfl (Nat.le_of_ble_eq_true rfl) (fun p e s m below meth c C hr => ?_)
  refine go_lv (lv' := [some (.ref (ad 25)), some (.int (nI k))]) rfl ?_
  obtain ⟨hs0, hs1, hth⟩ := id hM
  have hn := hT.1
  refine go_aload0 C (pc := 0) dX8_cored_0 ?_
  refine go_aload0 C (pc := 1) dX8_cored_1 ?_
  refine go_ciV0 C (pc := 2) obj_25 (c_X8_all C.fl C.ok _ hM hT) gX8_cored_X8_all rfl rfl yok_X8_all ⟨rfl, rfl⟩ ⟨Nat.le_of_ble_eq_true rfl, Nat.le_of_ble_eq_true rfl⟩ (Nat.le_of_ble_eq_true rfl) ⟨Nat.zero_le _, Nat.zero_le _⟩ dX8_cored_2 (fun r1 μ1 hc1 => ?_)
  obtain ⟨rfl, hm1⟩ := hc1
  replace hm1 := hm1.symm
  subst hm1
  refine go_iload1 C (pc := 5) dX8_cored_5 ?_
  refine go_aload0 C (pc := 6) dX8_cored_6 ?_
  refine go_get C (pc := 7) 25 (by decide) rfl rfl 0 (by decide) rfl rfl hi_X8_cored_RX8 lk_X8_cored_7 dX8_cored_7 ?_
  refine go_iconst C (pc := 10) (v := 1) (by decide) dX8_cored_10 ?_
  refine go_top (y := nI 1) (by first | rfl | decide +kernel) ?_
  refine go_ialdN C (pc := 11) arr_26 (i := 1) (by omega) dX8_cored_11 ?_
  refine go_top (y := pr) hs1 ?_
  refine go_ciV3 C (pc := 12) obj_25 (c_X8_left C.fl C.ok _ _ _ _ hM hT (sm_all hn) (fun _ h => h) hk) gX8_cored_X8_left rfl rfl yok_X8_left ⟨rfl, rfl⟩ ⟨Nat.le_of_ble_eq_true rfl, Nat.le_of_ble_eq_true rfl⟩ (Nat.le_of_ble_eq_true rfl) ⟨Nat.zero_le _, Nat.zero_le _⟩ dX8_cored_12 (fun r2 μ2 hc2 => ?_)
  obtain ⟨rfl, hm2⟩ := hc2
  replace hm2 := hm2.symm
  subst hm2
  exact go_iret C hr dX8_cored_15 (⟨rfl, rfl⟩)

theorem yok_X8_coreNumber : yOK yX8_coreNumber 1 := by unfold yOK; decide +kernel
set_option maxRecDepth 20000 in
set_option maxHeartbeats 4000000 in
theorem c_X8_coreNumber {l : Launch} {D : va_G} {ad : Nat → Nat} {cI cL : ClassId} (hfl : l.flags = flags0) (hok : adOK ad) (μ : Mem) (j : Nat) {n : Nat} {pr : Int32} {th : Nat → Int32} (hM : Mo μ n pr th) (hT : TV n pr th) (hj : j < n) : CtI l D ad cI cL yX8_coreNumber wsX8_coreNumber (RM 3 70) [.ref (ad 25), .int (nI j)] μ (fun (r : Int32) (μ' : Mem) => r = nI (coreN th pr n j) ∧ μ' = μ) := by
  refine ct_i (cc := cX8_coreNumber) (maxL := 3) (own := RX8) .int hfl hok (by decide) rfl rfl rfl (Nat.le_of_ble_eq_true rfl) (fun p e s m below meth c C hr => ?_)
  refine go_lv (lv' := [some (.ref (ad 25)), some (.int (nI j)), none]) rfl ?_
  obtain ⟨hs0, hs1, hth⟩ := id hM
  have hn := hT.1
  have key : ∀ k, coreN th pr n j ≤ k → k ≤ 15 → Go p l e (headSpec wsX8_coreNumber (RM 3 70)).room s m ([.ref (ad 25), .int (nI j)] : List Value).toArray below meth c 0 0 (MQ below (va_Qi (fun (r : Int32) (μ' : Mem) => r = nI (coreN th pr n j) ∧ μ' = μ) (fun μ' t => PreW D ad cI cL μ' t) (AW ad)) ([.ref (ad 25), .int (nI j)] : List Value).toArray s 0 0 (AW ad)) (AW ad) D ad cI cL 3 3 [some (.ref (ad 25)), some (.int (nI j)), some (.int (nI k))] [] (μ) := by
    intro k
    induction k with
    | zero =>
      intro h0 h1
      refine go_aload0 C (pc := 3) dX8_coreNumber_3 ?_
      refine go_iload2 C (pc := 4) dX8_coreNumber_4 ?_
      refine go_ciV1 C (pc := 5) obj_25 (c_X8_cored C.fl C.ok _ _ hM hT (by omega)) gX8_coreNumber_X8_cored rfl rfl yok_X8_cored ⟨rfl, rfl⟩ ⟨Nat.le_of_ble_eq_true rfl, Nat.le_of_ble_eq_true rfl⟩ (Nat.le_of_ble_eq_true rfl) ⟨Nat.zero_le _, Nat.zero_le _⟩ dX8_coreNumber_5 (fun r1 μ1 hc1 => ?_)
      obtain ⟨rfl, hm1⟩ := hc1
      replace hm1 := hm1.symm
      subst hm1
      refine go_iload1 C (pc := 8) dX8_coreNumber_8 ?_
      refine go_ciS2 C (pc := 9) (c_X8_has C.fl C.ok _ _ _ (by omega)) gX8_coreNumber_X8_has rfl yok_X8_has ⟨rfl, rfl⟩ ⟨Nat.le_of_ble_eq_true rfl, Nat.le_of_ble_eq_true rfl⟩ (Nat.le_of_ble_eq_true rfl) ⟨Nat.zero_le _, Nat.zero_le _⟩ dX8_coreNumber_9 (fun r2 μ2 hc2 => ?_)
      obtain ⟨rfl, hm2⟩ := hc2
      replace hm2 := hm2.symm
      subst hm2
      refine go_if_ne C (pc := 12) (tgt := 21) dX8_coreNumber_12 (by decide) (fun h12 => ?_) (fun h12 => ?_)
      · refine go_iload2 C (pc := 21) dX8_coreNumber_21 ?_
        exact go_iret C hr dX8_coreNumber_22 (⟨by rw [show coreN th pr n j = 0 by omega], rfl⟩)
      · exact absurd ((core_iff (th := th) (pr := pr) (k := 0) hn hj (by decide)).mpr (Nat.zero_le _)) (by rw [bpos h12]; decide)
    | succ k ih =>
      intro h0 h1
      refine go_aload0 C (pc := 3) dX8_coreNumber_3 ?_
      refine go_iload2 C (pc := 4) dX8_coreNumber_4 ?_
      refine go_ciV1 C (pc := 5) obj_25 (c_X8_cored C.fl C.ok _ _ hM hT (by omega)) gX8_coreNumber_X8_cored rfl rfl yok_X8_cored ⟨rfl, rfl⟩ ⟨Nat.le_of_ble_eq_true rfl, Nat.le_of_ble_eq_true rfl⟩ (Nat.le_of_ble_eq_true rfl) ⟨Nat.zero_le _, Nat.zero_le _⟩ dX8_coreNumber_5 (fun r4 μ4 hc4 => ?_)
      obtain ⟨rfl, hm4⟩ := hc4
      replace hm4 := hm4.symm
      subst hm4
      refine go_iload1 C (pc := 8) dX8_coreNumber_8 ?_
      refine go_ciS2 C (pc := 9) (c_X8_has C.fl C.ok _ _ _ (by omega)) gX8_coreNumber_X8_has rfl yok_X8_has ⟨rfl, rfl⟩ ⟨Nat.le_of_ble_eq_true rfl, Nat.le_of_ble_eq_true rfl⟩ (Nat.le_of_ble_eq_true rfl) ⟨Nat.zero_le _, Nat.zero_le _⟩ dX8_coreNumber_9 (fun r5 μ5 hc5 => ?_)
      obtain ⟨rfl, hm5⟩ := hc5
      replace hm5 := hm5.symm
      subst hm5
      refine go_if_ne C (pc := 12) (tgt := 21) dX8_coreNumber_12 (by decide) (fun h12 => ?_) (fun h12 => ?_)
      · refine go_iload2 C (pc := 21) dX8_coreNumber_21 ?_
        exact go_iret C hr dX8_coreNumber_22 (⟨by rw [show coreN th pr n j = k + 1 from Nat.le_antisymm h0 ((core_iff hn hj h1).mp (bneg h12))], rfl⟩)
      · refine go_iinc2 C (pc := 15) (v := -1) dX8_coreNumber_15 (by decide) ?_
        refine go_goto C (pc := 18) (tgt := 3) dX8_coreNumber_18 (by decide) ?_
        exact go_lv (by rw [pk_m1]) (ih (Nat.le_of_lt_succ (Nat.lt_of_le_of_ne h0 (fun e => by have := (core_iff (th := th) (pr := pr) hn hj h1).mpr (by omega); rw [bpos h12] at this; cases this))) (by omega))
  refine go_bipush C (pc := 0) (v := 15) (by decide) dX8_coreNumber_0 ?_
  refine go_istore2 C (pc := 2) dX8_coreNumber_2 ?_
  exact go_lv (by rw [show (15 : Int32) = nI 15 from by decide +kernel]) (key 15 (topK_le _ _) (Nat.le_refl _))

