/-! ===== ThornCoresModel: the best prop, the pieces of a core ===== -/
theorem best_v {th : Nat → Int32} {pr : Int32} {n k : Nat} : ∀ i, ((bestI th pr n k i).2 = -1 ∧ ∀ x, x < i → bt pr x = true) ∨ ((∃ z, z ≤ 16 ∧ (bestI th pr n k i).2 = nI z) ∧ (bestI th pr n k i).1 < i ∧ ∃ x, x < i ∧ bt pr x = false)
  | 0 => Or.inl ⟨rfl, fun x h => absurd h (Nat.not_lt_zero x)⟩
  | i + 1 => by
    have ih := best_v (th := th) (pr := pr) (n := n) (k := k) i
    rw [bestI]
    by_cases a : bt pr i = true
    · rw [if_pos a]
      rcases ih with ⟨h1, h2⟩ | ⟨h1, h2, x, h3, h4⟩
      · refine Or.inl ⟨h1, fun x hx => ?_⟩
        rcases Nat.lt_or_ge x i with w | w
        · exact h2 x w
        · rw [show x = i by omega]; exact a
      · exact Or.inr ⟨h1, by omega, x, by omega, h4⟩
    · rw [if_neg a]
      have hu : bt pr i = false := by cases q : bt pr i; rfl; exact absurd q a
      by_cases b : (bestI th pr n k i).2 < nI (propSize th pr n k i)
      · rw [if_pos b]
        exact Or.inr ⟨⟨_, ct_le _, rfl⟩, Nat.lt_succ_self i, i, Nat.lt_succ_self i, hu⟩
      · rw [if_neg b]
        rcases ih with ⟨h1, h2⟩ | ⟨h1, h2, -⟩
        · exfalso
          rw [h1] at b
          have h0 : propSize th pr n k i ≤ 16 := ct_le _
          exact b ((by decide +kernel : ∀ z, z ≤ 16 → (-1 : Int32) < nI z) _ h0)
        · exact Or.inr ⟨h1, by omega, i, Nat.lt_succ_self i, hu⟩
def fdB (th : Nat → Int32) (pr : Int32) (n k i : Nat) : Int32 := if (bestI th pr n k i).2 = -1 then -1 else nI (bestI th pr n k i).1
theorem nI_ne1 {z : Nat} (h : z ≤ 16) : ¬ nI z = (-1 : Int32) := (by decide +kernel : ∀ z, z ≤ 16 → ¬ nI z = (-1 : Int32)) z h
theorem fdB_p {th : Nat → Int32} {pr : Int32} {n k i : Nat} (h : bt pr i = true) : bestI th pr n k (i + 1) = bestI th pr n k i := by rw [bestI, if_pos h]
theorem fdB_keep {th : Nat → Int32} {pr : Int32} {n k i : Nat} (h : bt pr i = false) (h2 : nI (propSize th pr n k i) ≤ (bestI th pr n k i).2) : bestI th pr n k (i + 1) = bestI th pr n k i := by rw [bestI, if_neg (by rw [h]; decide), if_neg (Int32.not_lt.mpr h2)]
theorem fdB_take {th : Nat → Int32} {pr : Int32} {n k i : Nat} (h : bt pr i = false) (h2 : ¬ nI (propSize th pr n k i) ≤ (bestI th pr n k i).2) : bestI th pr n k (i + 1) = (i, nI (propSize th pr n k i)) := by rw [bestI, if_neg (by rw [h]; decide), if_pos (Int32.not_le.mp h2)]
theorem best_m1 {th : Nat → Int32} {pr : Int32} {n k : Nat} (i : Nat) : (-1 : Int32) ≤ (bestI th pr n k i).2 := by
  rcases best_v (th := th) (pr := pr) (n := n) (k := k) i with ⟨h, -⟩ | ⟨⟨z, hz, h⟩, -⟩
  · rw [h]; decide
  · rw [h]; exact (by decide +kernel : ∀ z, z ≤ 16 → (-1 : Int32) ≤ nI z) z hz
theorem prop_all {n : Nat} {pr : Int32} {th : Nat → Int32} (hT : TV n pr th) (h : ∀ x, x < n → bt pr x = true) : pr = allI n := b_ext (fun i _ => by
  rw [bt_all hT.1]
  by_cases q : i < n
  · rw [h i q]; exact (decide_eq_true q).symm
  · rw [decide_eq_false q]
    cases w : bt pr i
    · rfl
    · exact absurd (hT.2.1 i w) q)
theorem yok_X8_bestProp : yOK yX8_bestProp 1 := by unfold yOK; decide +kernel
theorem hi_X8_bestProp_RX8 : ∀ w ∈ wsX80, w ∈ wsX8_bestProp := by decide +kernel
theorem lk_X8_bestProp_7 : Cond.fieldLink RX8 7 "ThornCoresModel" "s" "[I" ∈ wsX8_bestProp := by decide +kernel
set_option maxRecDepth 20000 in
set_option maxHeartbeats 4000000 in
theorem c_X8_bestProp {l : Launch} {D : va_G} {ad : Nat → Nat} {cI cL : ClassId} (hfl : l.flags = flags0) (hok : adOK ad) (μ : Mem) (p0 : Int32) {n : Nat} {pr : Int32} {th : Nat → Int32} (hM : Mo μ n pr th) (hT : TV n pr th) : CtI l D ad cI cL yX8_bestProp wsX8_bestProp (RM 2 49) [.ref (ad 25), .int p0] μ (fun (r : Int32) (μ' : Mem) => ((inR p0 0 15 = false ∧ μ' 25 7 = 1) ∨ (∃ k, k ≤ 15 ∧ p0 = nI k ∧ pr = allI n ∧ μ' 25 7 = 2) ∨ ∃ k, k ≤ 15 ∧ p0 = nI k ∧ pr ≠ allI n ∧ r = nI (bestI th pr n k n).1 ∧ μ' 25 7 = 0) ∧ kp μ μ' [25]) := by
  refine ct_i (cc := cX8_bestProp) (maxL := 6) (own := RX8) .int hfl hok (by decide) rfl rfl rfl (Nat.le_of_ble_eq_true rfl) (fun p e s m below meth c C hr => ?_)
  refine go_lv (lv' := [some (.ref (ad 25)), some (.int p0), none, none, none, none]) rfl ?_
  obtain ⟨hs0, hs1, hth⟩ := id hM
  have hn := hT.1
  refine go_aload0 C (pc := 0) dX8_bestProp_0 ?_
  refine go_iload1 C (pc := 1) dX8_bestProp_1 ?_
  refine go_ciV1 C (pc := 2) obj_25 (c_X8_isDepth C.fl C.ok _ _ ) gX8_bestProp_X8_isDepth rfl rfl yok_X8_isDepth ⟨rfl, rfl⟩ ⟨Nat.le_of_ble_eq_true rfl, Nat.le_of_ble_eq_true rfl⟩ (Nat.le_of_ble_eq_true rfl) ⟨Nat.zero_le _, Nat.zero_le _⟩ dX8_bestProp_2 (fun r16 μ16 hc16 => ?_)
  obtain ⟨rfl, hm16⟩ := hc16
  replace hm16 := hm16.symm
  subst hm16
  refine go_if_ne C (pc := 5) (tgt := 10) dX8_bestProp_5 (by decide) (fun h5 => ?_) (fun h5 => ?_)
  · have hcd := dz h5
    obtain ⟨k, hk, rfl⟩ := cdK_ex hcd
    have key : ∀ x, x ≤ n → Go p l e (headSpec wsX8_bestProp (RM 2 49)).room s m ([.ref (ad 25), .int (nI k)] : List Value).toArray below meth c 0 0 (MQ below (va_Qi (fun (r : Int32) (μ' : Mem) => ((inR (nI k) 0 15 = false ∧ μ' 25 7 = 1) ∨ (∃ k1, k1 ≤ 15 ∧ (nI k) = nI k1 ∧ pr = allI n ∧ μ' 25 7 = 2) ∨ ∃ k1, k1 ≤ 15 ∧ (nI k) = nI k1 ∧ pr ≠ allI n ∧ r = nI (bestI th pr n k1 n).1 ∧ μ' 25 7 = 0) ∧ kp μ μ' [25]) (fun μ' t => PreW D ad cI cL μ' t) (AW ad)) ([.ref (ad 25), .int (nI k)] : List Value).toArray s 0 0 (AW ad)) (AW ad) D ad cI cL 6 17 [some (.ref (ad 25)), some (.int (nI k)), some (.int (fdB th pr n k x)), some (.int (bestI th pr n k x).2), some (.int (nI x)), none] [] (mset μ 25 (upd (μ 25) 7 (cdK (nI k)))) := by
      refine dn_ind ?_ ?_
      · refine go_iload4 C (pc := 17) dX8_bestProp_17 ?_
        refine go_aload0 C (pc := 19) dX8_bestProp_19 ?_
        refine go_get C (pc := 20) 25 (by decide) rfl rfl 0 (by decide) rfl rfl hi_X8_bestProp_RX8 lk_X8_bestProp_7 dX8_bestProp_20 ?_
        refine go_iconst C (pc := 23) (v := 0) (by decide) dX8_bestProp_23 ?_
        refine go_top (y := nI 0) (by first | rfl | decide +kernel) ?_
        refine go_ialdN C (pc := 24) arr_26 (i := 0) (by omega) dX8_bestProp_24 ?_
        refine go_top (y := nI n) hs0 ?_
        refine go_icmp_ge C (pc := 25) (tgt := 103) dX8_bestProp_25 (by decide) (fun h25 => ?_) (fun h25 => ?_)
        · refine go_iload2 C (pc := 103) dX8_bestProp_103 ?_
          refine go_if_ge C (pc := 104) (tgt := 115) dX8_bestProp_104 (by decide) (fun h104 => ?_) (fun h104 => ?_)
          · refine go_iload2 C (pc := 115) dX8_bestProp_115 ?_
            rcases best_v (th := th) (pr := pr) (n := n) (k := k) n with ⟨e1, e2⟩ | ⟨⟨z, hz, e1⟩, e2, y, hy, hu⟩
            · exact absurd (show (0 : Int32) ≤ fdB th pr n k n from h104) (by rw [fdB, if_pos e1]; decide)
            · exact go_iret C hr dX8_bestProp_116 ⟨Or.inr (Or.inr ⟨k, hk, rfl, fun q => (by rw [q, bt_all hn, decide_eq_true hy] at hu; cases hu), by rw [fdB, if_neg (by rw [e1]; exact nI_ne1 hz)], hcd⟩), ⟨⟨rfl, rfl, rfl⟩, (by repeat' (first | exact same_rf | refine same_ms ?_ (by decide)))⟩⟩
          · refine go_aload0 C (pc := 107) dX8_bestProp_107 ?_
            refine go_iconst C (pc := 108) (v := 2) (by decide) dX8_bestProp_108 ?_
            refine go_ciV1 C (pc := 109) obj_25 (c_X8_throwing C.fl C.ok _ _ ) gX8_bestProp_X8_throwing rfl rfl yok_X8_throwing ⟨rfl, rfl⟩ ⟨Nat.le_of_ble_eq_true rfl, Nat.le_of_ble_eq_true rfl⟩ (Nat.le_of_ble_eq_true rfl) ⟨Nat.zero_le _, Nat.zero_le _⟩ dX8_bestProp_109 (fun r3 μ3 hc3 => ?_)
            obtain ⟨rfl, hm3⟩ := hc3
            replace hm3 := hm3.symm
            subst hm3
            refine go_goto C (pc := 112) (tgt := 116) dX8_bestProp_112 (by decide) ?_
            rcases best_v (th := th) (pr := pr) (n := n) (k := k) n with ⟨e1, e2⟩ | ⟨⟨z, hz, e1⟩, e2, -⟩
            · exact go_iret C hr dX8_bestProp_116 ⟨Or.inr (Or.inl ⟨k, hk, rfl, prop_all hT e2, rfl⟩), ⟨⟨rfl, rfl, rfl⟩, (by repeat' (first | exact same_rf | refine same_ms ?_ (by decide)))⟩⟩
            · exact absurd (show fdB th pr n k n < 0 from Int32.not_le.mp h104) (by rw [fdB, if_neg (by rw [e1]; exact nI_ne1 hz)]; exact nI_pos (by omega))
        · exact absurd (nI_le (Nat.le_refl _) (by omega)) h25
      · intro x hx ih
        refine go_iload4 C (pc := 17) dX8_bestProp_17 ?_
        refine go_aload0 C (pc := 19) dX8_bestProp_19 ?_
        refine go_get C (pc := 20) 25 (by decide) rfl rfl 0 (by decide) rfl rfl hi_X8_bestProp_RX8 lk_X8_bestProp_7 dX8_bestProp_20 ?_
        refine go_iconst C (pc := 23) (v := 0) (by decide) dX8_bestProp_23 ?_
        refine go_top (y := nI 0) (by first | rfl | decide +kernel) ?_
        refine go_ialdN C (pc := 24) arr_26 (i := 0) (by omega) dX8_bestProp_24 ?_
        refine go_top (y := nI n) hs0 ?_
        refine go_icmp_ge C (pc := 25) (tgt := 103) dX8_bestProp_25 (by decide) (fun h25 => ?_) (fun h25 => ?_)
        · exact absurd h25 (nI_ge hx (by omega))
        · refine go_aload0 C (pc := 28) dX8_bestProp_28 ?_
          refine go_get C (pc := 29) 25 (by decide) rfl rfl 0 (by decide) rfl rfl hi_X8_bestProp_RX8 lk_X8_bestProp_7 dX8_bestProp_29 ?_
          refine go_iconst C (pc := 32) (v := 1) (by decide) dX8_bestProp_32 ?_
          refine go_top (y := nI 1) (by first | rfl | decide +kernel) ?_
          refine go_ialdN C (pc := 33) arr_26 (i := 1) (by omega) dX8_bestProp_33 ?_
          refine go_top (y := pr) hs1 ?_
          refine go_iload4 C (pc := 34) dX8_bestProp_34 ?_
          refine go_ciS2 C (pc := 36) (c_X8_has C.fl C.ok _ _ _ (by omega)) gX8_bestProp_X8_has rfl yok_X8_has ⟨rfl, rfl⟩ ⟨Nat.le_of_ble_eq_true rfl, Nat.le_of_ble_eq_true rfl⟩ (Nat.le_of_ble_eq_true rfl) ⟨Nat.zero_le _, Nat.zero_le _⟩ dX8_bestProp_36 (fun r5 μ5 hc5 => ?_)
          obtain ⟨rfl, hm5⟩ := hc5
          replace hm5 := hm5.symm
          subst hm5
          refine go_if_eq C (pc := 39) (tgt := 46) dX8_bestProp_39 (by decide) (fun h39 => ?_) (fun h39 => ?_)
          · refine go_aload0 C (pc := 46) dX8_bestProp_46 ?_
            refine go_aload0 C (pc := 47) dX8_bestProp_47 ?_
            refine go_ciV0 C (pc := 48) obj_25 (c_X8_all C.fl C.ok _ hM hT) gX8_bestProp_X8_all rfl rfl yok_X8_all ⟨rfl, rfl⟩ ⟨Nat.le_of_ble_eq_true rfl, Nat.le_of_ble_eq_true rfl⟩ (Nat.le_of_ble_eq_true rfl) ⟨Nat.zero_le _, Nat.zero_le _⟩ dX8_bestProp_48 (fun r7 μ7 hc7 => ?_)
            obtain ⟨rfl, hm7⟩ := hc7
            replace hm7 := hm7.symm
            subst hm7
            refine go_iload1 C (pc := 51) dX8_bestProp_51 ?_
            refine go_aload0 C (pc := 52) dX8_bestProp_52 ?_
            refine go_get C (pc := 53) 25 (by decide) rfl rfl 0 (by decide) rfl rfl hi_X8_bestProp_RX8 lk_X8_bestProp_7 dX8_bestProp_53 ?_
            refine go_iconst C (pc := 56) (v := 1) (by decide) dX8_bestProp_56 ?_
            refine go_top (y := nI 1) (by first | rfl | decide +kernel) ?_
            refine go_ialdN C (pc := 57) arr_26 (i := 1) (by omega) dX8_bestProp_57 ?_
            refine go_top (y := pr) hs1 ?_
            refine go_iconst C (pc := 58) (v := 1) (by decide) dX8_bestProp_58 ?_
            refine go_iload4 C (pc := 59) dX8_bestProp_59 ?_
            refine go_ishl C (pc := 61) dX8_bestProp_61 ?_
            refine go_ior C (pc := 62) dX8_bestProp_62 ?_
            refine go_ciV3 C (pc := 63) obj_25 (c_X8_left C.fl C.ok _ _ _ _ hM hT (sm_all hn) (fun _ h => h) (by omega)) gX8_bestProp_X8_left rfl rfl yok_X8_left ⟨rfl, rfl⟩ ⟨Nat.le_of_ble_eq_true rfl, Nat.le_of_ble_eq_true rfl⟩ (Nat.le_of_ble_eq_true rfl) ⟨Nat.zero_le _, Nat.zero_le _⟩ dX8_bestProp_63 (fun r8 μ8 hc8 => ?_)
            obtain ⟨rfl, hm8⟩ := hc8
            replace hm8 := hm8.symm
            subst hm8
            refine go_ciS1 C (pc := 66) (c_X8_bits C.fl C.ok _ _ ) gX8_bestProp_X8_bits rfl yok_X8_bits ⟨rfl, rfl⟩ ⟨Nat.le_of_ble_eq_true rfl, Nat.le_of_ble_eq_true rfl⟩ (Nat.le_of_ble_eq_true rfl) ⟨Nat.zero_le _, Nat.zero_le _⟩ dX8_bestProp_66 (fun r9 μ9 hc9 => ?_)
            obtain ⟨rfl, hm9⟩ := hc9
            replace hm9 := hm9.symm
            subst hm9
            refine go_istore5 C (pc := 69) dX8_bestProp_69 ?_
            refine go_iload5 C (pc := 71) dX8_bestProp_71 ?_
            refine go_iload3 C (pc := 73) dX8_bestProp_73 ?_
            refine go_icmp_le C (pc := 74) (tgt := 82) dX8_bestProp_74 (by decide) (fun h74 => ?_) (fun h74 => ?_)
            · refine go_iload2 C (pc := 82) dX8_bestProp_82 ?_
              refine go_istore2 C (pc := 83) dX8_bestProp_83 ?_
              refine go_iload5 C (pc := 84) dX8_bestProp_84 ?_
              refine go_iload3 C (pc := 86) dX8_bestProp_86 ?_
              refine go_icmp_le C (pc := 87) (tgt := 95) dX8_bestProp_87 (by decide) (fun h87 => ?_) (fun h87 => ?_)
              · refine go_iload3 C (pc := 95) dX8_bestProp_95 ?_
                refine go_istore3 C (pc := 96) dX8_bestProp_96 ?_
                refine go_iinc4 C (pc := 97) (v := 1) dX8_bestProp_97 (by decide) ?_
                refine go_goto C (pc := 100) (tgt := 17) dX8_bestProp_100 (by decide) ?_
                exact go_drop5 (go_lv (by rw [nI_1, fdB, ← fdB_keep (bpos h39) h74]; rfl) ih)
              · refine go_iload5 C (pc := 90) dX8_bestProp_90 ?_
                refine go_goto C (pc := 92) (tgt := 96) dX8_bestProp_92 (by decide) ?_
                refine go_istore3 C (pc := 96) dX8_bestProp_96 ?_
                refine go_iinc4 C (pc := 97) (v := 1) dX8_bestProp_97 (by decide) ?_
                refine go_goto C (pc := 100) (tgt := 17) dX8_bestProp_100 (by decide) ?_
                exact absurd h74 h87
            · refine go_iload4 C (pc := 77) dX8_bestProp_77 ?_
              refine go_goto C (pc := 79) (tgt := 83) dX8_bestProp_79 (by decide) ?_
              refine go_istore2 C (pc := 83) dX8_bestProp_83 ?_
              refine go_iload5 C (pc := 84) dX8_bestProp_84 ?_
              refine go_iload3 C (pc := 86) dX8_bestProp_86 ?_
              refine go_icmp_le C (pc := 87) (tgt := 95) dX8_bestProp_87 (by decide) (fun h87 => ?_) (fun h87 => ?_)
              · refine go_iload3 C (pc := 95) dX8_bestProp_95 ?_
                refine go_istore3 C (pc := 96) dX8_bestProp_96 ?_
                refine go_iinc4 C (pc := 97) (v := 1) dX8_bestProp_97 (by decide) ?_
                refine go_goto C (pc := 100) (tgt := 17) dX8_bestProp_100 (by decide) ?_
                exact absurd h87 h74
              · refine go_iload5 C (pc := 90) dX8_bestProp_90 ?_
                refine go_goto C (pc := 92) (tgt := 96) dX8_bestProp_92 (by decide) ?_
                refine go_istore3 C (pc := 96) dX8_bestProp_96 ?_
                refine go_iinc4 C (pc := 97) (v := 1) dX8_bestProp_97 (by decide) ?_
                refine go_goto C (pc := 100) (tgt := 17) dX8_bestProp_100 (by decide) ?_
                exact go_drop5 (go_lv (by rw [nI_1, fdB, fdB_take (bpos h39) h74, if_neg (show ¬ (x, nI (propSize th pr n k x)).2 = -1 from nI_ne1 (ct_le _))]; rfl) ih)
          · refine go_iconst C (pc := 42) (v := -1) (by decide) dX8_bestProp_42 ?_
            refine go_goto C (pc := 43) (tgt := 69) dX8_bestProp_43 (by decide) ?_
            refine go_istore5 C (pc := 69) dX8_bestProp_69 ?_
            refine go_iload5 C (pc := 71) dX8_bestProp_71 ?_
            refine go_iload3 C (pc := 73) dX8_bestProp_73 ?_
            refine go_icmp_le C (pc := 74) (tgt := 82) dX8_bestProp_74 (by decide) (fun h74 => ?_) (fun h74 => ?_)
            · refine go_iload2 C (pc := 82) dX8_bestProp_82 ?_
              refine go_istore2 C (pc := 83) dX8_bestProp_83 ?_
              refine go_iload5 C (pc := 84) dX8_bestProp_84 ?_
              refine go_iload3 C (pc := 86) dX8_bestProp_86 ?_
              refine go_icmp_le C (pc := 87) (tgt := 95) dX8_bestProp_87 (by decide) (fun h87 => ?_) (fun h87 => ?_)
              · refine go_iload3 C (pc := 95) dX8_bestProp_95 ?_
                refine go_istore3 C (pc := 96) dX8_bestProp_96 ?_
                refine go_iinc4 C (pc := 97) (v := 1) dX8_bestProp_97 (by decide) ?_
                refine go_goto C (pc := 100) (tgt := 17) dX8_bestProp_100 (by decide) ?_
                exact go_drop5 (go_lv (by rw [nI_1, fdB, ← fdB_p (th := th) (n := n) (k := k) (bneg h39)]; rfl) ih)
              · refine go_iload5 C (pc := 90) dX8_bestProp_90 ?_
                refine go_goto C (pc := 92) (tgt := 96) dX8_bestProp_92 (by decide) ?_
                refine go_istore3 C (pc := 96) dX8_bestProp_96 ?_
                refine go_iinc4 C (pc := 97) (v := 1) dX8_bestProp_97 (by decide) ?_
                refine go_goto C (pc := 100) (tgt := 17) dX8_bestProp_100 (by decide) ?_
                exact absurd h74 h87
            · refine go_iload4 C (pc := 77) dX8_bestProp_77 ?_
              refine go_goto C (pc := 79) (tgt := 83) dX8_bestProp_79 (by decide) ?_
              refine go_istore2 C (pc := 83) dX8_bestProp_83 ?_
              refine go_iload5 C (pc := 84) dX8_bestProp_84 ?_
              refine go_iload3 C (pc := 86) dX8_bestProp_86 ?_
              refine go_icmp_le C (pc := 87) (tgt := 95) dX8_bestProp_87 (by decide) (fun h87 => ?_) (fun h87 => ?_)
              · refine go_iload3 C (pc := 95) dX8_bestProp_95 ?_
                refine go_istore3 C (pc := 96) dX8_bestProp_96 ?_
                refine go_iinc4 C (pc := 97) (v := 1) dX8_bestProp_97 (by decide) ?_
                refine go_goto C (pc := 100) (tgt := 17) dX8_bestProp_100 (by decide) ?_
                exact absurd h87 h74
              · refine go_iload5 C (pc := 90) dX8_bestProp_90 ?_
                refine go_goto C (pc := 92) (tgt := 96) dX8_bestProp_92 (by decide) ?_
                refine go_istore3 C (pc := 96) dX8_bestProp_96 ?_
                refine go_iinc4 C (pc := 97) (v := 1) dX8_bestProp_97 (by decide) ?_
                refine go_goto C (pc := 100) (tgt := 17) dX8_bestProp_100 (by decide) ?_
                exact absurd (best_m1 x) h74
    refine go_iconst C (pc := 10) (v := -1) (by decide) dX8_bestProp_10 ?_
    refine go_istore2 C (pc := 11) dX8_bestProp_11 ?_
    refine go_iconst C (pc := 12) (v := -1) (by decide) dX8_bestProp_12 ?_
    refine go_istore3 C (pc := 13) dX8_bestProp_13 ?_
    refine go_iconst C (pc := 14) (v := 0) (by decide) dX8_bestProp_14 ?_
    refine go_istore4 C (pc := 15) dX8_bestProp_15 ?_
    exact go_lv (by rw [nI_0]; rfl) (key 0 (Nat.zero_le _))
  · refine go_iconst C (pc := 8) (v := 0) (by decide) dX8_bestProp_8 ?_
    exact go_iret C hr dX8_bestProp_9 (⟨Or.inl (cdK_no (dnz h5)), ⟨⟨rfl, rfl, rfl⟩, (by repeat' (first | exact same_rf | refine same_ms ?_ (by decide)))⟩⟩)

def clP (th : Nat → Int32) (core P : Int32) : Prop := ∀ q, q < 16 → bt P q = true → sub (th q &&& core) P
theorem grow_bt {th : Nat → Int32} {core x : Int32} : ∀ i t, bt (growI th core x i) t = true ↔ bt x t = true ∨ ∃ q, q < i ∧ bt x q = true ∧ bt (th q &&& core) t = true
  | 0, t => ⟨Or.inl, fun h => h.elim id (fun ⟨q, h, _⟩ => absurd h (Nat.not_lt_zero q))⟩
  | i + 1, t => by
    have ih := grow_bt (th := th) (core := core) (x := x) i t
    rw [growI]
    by_cases a : bt x i = true
    · rw [if_pos a, b_or, Bool.or_eq_true, ih]
      constructor
      · rintro ((h | ⟨q, h1, h2, h3⟩) | h)
        · exact Or.inl h
        · exact Or.inr ⟨q, by omega, h2, h3⟩
        · exact Or.inr ⟨i, Nat.lt_succ_self i, a, h⟩
      · rintro (h | ⟨q, h1, h2, h3⟩)
        · exact Or.inl (Or.inl h)
        · rcases Nat.lt_or_ge q i with w | w
          · exact Or.inl (Or.inr ⟨q, w, h2, h3⟩)
          · rw [show q = i by omega] at h3; exact Or.inr h3
    · rw [if_neg a, ih]
      constructor
      · rintro (h | ⟨q, h1, h2, h3⟩)
        · exact Or.inl h
        · exact Or.inr ⟨q, by omega, h2, h3⟩
      · rintro (h | ⟨q, h1, h2, h3⟩)
        · exact Or.inl h
        · rcases Nat.lt_or_ge q i with w | w
          · exact Or.inr ⟨q, w, h2, h3⟩
          · rw [show q = i by omega] at h2; exact absurd h2 a
theorem grow_sup {th : Nat → Int32} {core x : Int32} : sub x (growI th core x 16) := fun t h => (grow_bt 16 t).mpr (Or.inl h)
theorem grow_in {th : Nat → Int32} {core x M : Int32} (hM : clP th core M) (h : sub x M) : sub (growI th core x 16) M := fun t ht => by
  rcases (grow_bt 16 t).mp ht with w | ⟨q, h1, h2, h3⟩
  · exact h t w
  · exact hM q h1 (h q h2) t h3
theorem grow_fix {th : Nat → Int32} {core x : Int32} (h : growI th core x 16 = x) : clP th core x := fun q hq hb t ht => by
  rw [← h]
  exact (grow_bt 16 t).mpr (Or.inr ⟨q, hq, hb, ht⟩)
theorem grow_sm {th : Nat → Int32} {core x : Int32} (hx : sm x) (hc : sm core) : sm (growI th core x 16) := fun t ht => by
  cases q : bt (growI th core x 16) t
  · rfl
  · rcases (grow_bt 16 t).mp q with w | ⟨q, -, -, h3⟩
    · rw [hx t ht] at w; cases w
    · rw [b_and, hc t ht, Bool.and_false] at h3; cases h3
theorem itr_sm {th : Nat → Int32} {core x : Int32} (hx : sm x) (hc : sm core) : ∀ i, sm (itr (fun x => growI th core x 16) i x)
  | 0 => hx
  | i + 1 => grow_sm (itr_sm hx hc i) hc
theorem itr_sup {th : Nat → Int32} {core x : Int32} : ∀ i, sub x (itr (fun x => growI th core x 16) i x)
  | 0 => fun _ h => h
  | i + 1 => fun t h => grow_sup t (itr_sup i t h)
theorem itr_in {th : Nat → Int32} {core x M : Int32} (hM : clP th core M) (h : sub x M) : ∀ i, sub (itr (fun x => growI th core x 16) i x) M
  | 0 => h
  | i + 1 => grow_in hM (itr_in hM h i)
theorem itr_big {th : Nat → Int32} {core x : Int32} (hx : sm x) (hc : sm core) (h1 : 1 ≤ ct x) : ∀ i, growI th core (itr (fun x => growI th core x 16) i x) 16 = itr (fun x => growI th core x 16) i x ∨ i + 1 ≤ ct (itr (fun x => growI th core x 16) i x)
  | 0 => Or.inr h1
  | i + 1 => by
    rcases itr_big hx hc h1 i with h | h
    · left
      show growI th core (growI th core (itr (fun x => growI th core x 16) i x) 16) 16 = growI th core (itr (fun x => growI th core x 16) i x) 16
      rw [h, h]
    · by_cases e : itr (fun x => growI th core x 16) i x = growI th core (itr (fun x => growI th core x 16) i x) 16
      · left
        show growI th core (growI th core (itr (fun x => growI th core x 16) i x) 16) 16 = growI th core (itr (fun x => growI th core x 16) i x) 16
        rw [← e, ← e]
      · right
        have := ct_lt (grow_sm (itr_sm hx hc i) hc) (grow_sup (th := th) (core := core)) e
        show i + 1 + 1 ≤ ct (growI th core (itr (fun x => growI th core x 16) i x) 16)
        omega
section PC
variable {th : Nat → Int32} {core : Int32} {j : Nat}
theorem bit_sm (hj : j < 16) : sm (bitI (nI j)) := fun i hi => by rw [bitI, b_bit (by omega)]; exact decide_eq_false (by omega)
theorem bit_at (hj : j < 16) : bt (bitI (nI j)) j = true := by rw [bitI, b_bit (by omega)]; exact decide_eq_true rfl
theorem bit_sub {M : Int32} (hj : j < 16) (h : bt M j = true) : sub (bitI (nI j)) M := fun i hi => by
  rw [bitI, b_bit (by omega)] at hi
  rw [of_decide_eq_true hi]; exact h
theorem ct_pos {x : Int32} {i : Nat} (hi : i < 16) (h : bt x i = true) : 1 ≤ ct x := by
  have := fb_ct_upd (bt x) false hi
  rw [if_pos h] at this
  have e : ct x = fb_ct (bt x) 16 := rfl
  simp at this
  omega
theorem piece_sm (hc : sm core) (hj : j < 16) : sm (pieceI th core j) := itr_sm (bit_sm hj) hc 16
theorem piece_at (hj : j < 16) : bt (pieceI th core j) j = true := itr_sup 16 j (bit_at hj)
theorem piece_cl (hc : sm core) (hj : j < 16) : clP th core (pieceI th core j) := by
  rcases itr_big (th := th) (bit_sm hj) hc (ct_pos hj (bit_at hj)) 16 with h | h
  · exact grow_fix h
  · have := ct_le (itr (fun x => growI th core x 16) 16 (bitI (nI j)))
    omega
theorem piece_min {M : Int32} (hM : clP th core M) (hj : j < 16) (h : bt M j = true) : sub (pieceI th core j) M := itr_in hM (bit_sub hj h) 16
theorem piece_core (hj : j < 16) (h : bt core j = true) : sub (pieceI th core j) core := piece_min (fun q _ _ t ht => by rw [b_and, Bool.and_eq_true] at ht; exact ht.2) hj h
end PC
/-- what is left holds whole pieces alone -/
def sepP (th : Nat → Int32) (core L : Int32) : Prop := sub L core ∧ ∀ q, q < 16 → bt L q = true → sub (th q &&& core) L
theorem sep_0 {th : Nat → Int32} {core : Int32} : sepP th core core := ⟨fun _ h => h, fun q _ _ t ht => by rw [b_and, Bool.and_eq_true] at ht; exact ht.2⟩
theorem sep_s {n : Nat} {pr : Int32} {th : Nat → Int32} {core L : Int32} (hT : TV n pr th) (hc : sm core) {j : Nat} (hj : j < 16) (h : sepP th core L) : sepP th core (L &&& (pieceI th core j ^^^ (-1))) := by
  have hps := piece_sm (th := th) hc hj
  refine ⟨fun i hi => by rw [b_and, Bool.and_eq_true] at hi; exact h.1 i hi.1, fun q hq hb t ht => ?_⟩
  rw [b_and, bt_m1 (by omega), Bool.and_eq_true, Bool.not_eq_true'] at hb
  have h1 := h.2 q hq hb.1 t ht
  have ht2 := ht
  rw [b_and, Bool.and_eq_true] at ht2
  have ht16 : t < 16 := sub_lt hc ht2.2
  rw [b_and, bt_m1 (by omega), h1, Bool.true_and]
  cases w : bt (pieceI th core j) t
  · rfl
  · have := piece_cl hc hj t ht16 w q (by rw [b_and, hT.2.2.2 t q ht16 hq, ht2.1, h.1 q hb.1]; rfl)
    rw [hb.2] at this; cases this
def pcI (th : Nat → Int32) (core : Int32) (j : Nat) (S0 S : Int32) (i : Nat) : Prop := sub S (pieceI th core j) ∧ bt S j = true ∧ sub S0 S ∧ ((S = S0 ∧ ∀ q, q < i → bt S q = true → sub (th q &&& core) S) ∨ ct S0 < ct S)
section PCI
variable {th : Nat → Int32} {core S0 S L : Int32} {j i : Nat}
theorem pc_0 (h1 : sub S (pieceI th core j)) (h2 : bt S j = true) : pcI th core j S S 0 := ⟨h1, h2, fun _ h => h, Or.inl ⟨rfl, fun q h => absurd h (Nat.not_lt_zero q)⟩⟩
theorem pc_no (h : pcI th core j S0 S i) (hb : bt S i = false) : pcI th core j S0 S (i + 1) := ⟨h.1, h.2.1, h.2.2.1, h.2.2.2.imp (fun w => ⟨w.1, fun q hq hs => by
  rcases Nat.lt_or_ge q i with z | z
  · exact w.2 q z hs
  · rw [show q = i by omega, hb] at hs; cases hs⟩) id⟩
theorem pc_yes (hc : sm core) (hj : j < 16) (hi : i < 16) (h : pcI th core j S0 S i) (hb : bt S i = true) : pcI th core j S0 (S ||| (th i &&& core)) (i + 1) := by
  have hin : sub (S ||| (th i &&& core)) (pieceI th core j) := fun t ht => by
    rw [b_or, Bool.or_eq_true] at ht
    rcases ht with w | w
    · exact h.1 t w
    · exact piece_cl hc hj i hi (h.1 i hb) t w
  have hsm : sm (S ||| (th i &&& core)) := sm_sub (piece_sm hc hj) hin
  have hsup : sub S (S ||| (th i &&& core)) := fun t ht => by rw [b_or, ht]; rfl
  refine ⟨hin, hsup j h.2.1, fun t ht => hsup t (h.2.2.1 t ht), ?_⟩
  by_cases e : S = S ||| (th i &&& core)
  · rw [← e]
    refine h.2.2.2.imp (fun w => ⟨w.1, fun q hq hs => ?_⟩) id
    rcases Nat.lt_or_ge q i with z | z
    · exact w.2 q z hs
    · rw [show q = i by omega]
      exact fun t ht => by rw [e, b_or, ht, Bool.or_true]
  · right
    have := ct_lt hsm hsup e
    rcases h.2.2.2 with w | w
    · rw [← w.1]; exact this
    · omega
theorem pc_end {n : Nat} {pr : Int32} (hT : TV n pr th) (hc : sm core) (hcn : sub core (allI n)) (hj : j < 16) (hjc : bt core j = true) (h : pcI th core j S0 S n) : (S = S0 ∧ S = pieceI th core j) ∨ ct S0 < ct S := by
  refine h.2.2.2.imp (fun w => ⟨w.1, sub_anti h.1 (piece_min (fun q hq hb => w.2 q ?_ hb) hj h.2.1)⟩) id
  have := hcn q (piece_core hj hjc q (h.1 q hb))
  rw [bt_all hT.1] at this
  exact of_decide_eq_true this
theorem pc_step (hL : sepP th core L) (hj : j < 16) (hjL : bt L j = true) (hi : i < 16) (hc : sm core) (h : sub S (pieceI th core j)) (hb : bt S i = true) : th i &&& L = th i &&& core := by
  have hp : sub (pieceI th core j) L := piece_min (fun q hq hq2 => hL.2 q hq hq2) hj hjL
  refine b_ext (fun t _ => ?_)
  rw [b_and, b_and]
  cases w : bt (th i) t
  · rfl
  · rw [Bool.true_and, Bool.true_and]
    cases w2 : bt core t
    · cases w3 : bt L t
      · rfl
      · rw [hL.1 t w3] at w2; cases w2
    · exact hL.2 i hi (hp i (h i hb)) t (by rw [b_and, w, w2]; rfl)
end PCI
theorem pieces_sep {n : Nat} {pr : Int32} {th : Nat → Int32} {core : Int32} (hT : TV n pr th) (hc : sm core) : ∀ i, i ≤ 16 → sepP th core (piecesI th core i).2
  | 0, _ => sep_0
  | i + 1, hi => by
    rw [piecesI]
    split
    · exact sep_s hT hc (by omega) (pieces_sep hT hc i (by omega))
    · exact pieces_sep hT hc i (by omega)
theorem pieces_cut {n : Nat} {th : Nat → Int32} {core : Int32} (hn : n ≤ 16) (hcn : sub core (allI n)) : ∀ d, n + d ≤ 16 → sub (piecesI th core n).2 core → (piecesI th core (n + d)) = piecesI th core n
  | 0, _, _ => rfl
  | d + 1, hd, h => by
    have ih := pieces_cut (th := th) hn hcn d (by omega) h
    show piecesI th core (n + d + 1) = _
    rw [piecesI, ih, if_neg]
    intro w
    have := hcn _ (h _ w)
    rw [bt_all hn] at this
    have := of_decide_eq_true this
    omega
theorem yok_X8_corePieces : yOK yX8_corePieces 1 := by unfold yOK; decide +kernel
theorem hi_X8_corePieces_RX8 : ∀ w ∈ wsX80, w ∈ wsX8_corePieces := by decide +kernel
theorem lk_X8_corePieces_7 : Cond.fieldLink RX8 7 "ThornCoresModel" "s" "[I" ∈ wsX8_corePieces := by decide +kernel
set_option maxRecDepth 20000 in
set_option maxHeartbeats 4000000 in
theorem c_X8_corePieces {l : Launch} {D : va_G} {ad : Nat → Nat} {cI cL : ClassId} (hfl : l.flags = flags0) (hok : adOK ad) (μ : Mem) (p0 : Int32) {n : Nat} {pr : Int32} {th : Nat → Int32} (hM : Mo μ n pr th) (hT : TV n pr th) : CtI l D ad cI cL yX8_corePieces wsX8_corePieces (RM 3 70) [.ref (ad 25), .int p0] μ (fun (r : Int32) (μ' : Mem) => ((inR p0 0 15 = false ∧ μ' 25 7 = 1) ∨ ∃ k1, k1 ≤ 15 ∧ p0 = nI k1 ∧ r = nI (piecesI th (coreI th pr k1 (allI n)) 16).1 ∧ μ' 25 7 = 0) ∧ kp μ μ' [25]) := by
  refine ct_i (cc := cX8_corePieces) (maxL := 8) (own := RX8) .int hfl hok (by decide) rfl rfl rfl (Nat.le_of_ble_eq_true rfl) (fun p e s m below meth c C hr => ?_)
  refine go_lv (lv' := [some (.ref (ad 25)), some (.int p0), none, none, none, none, none, none]) rfl ?_
  obtain ⟨hs0, hs1, hth⟩ := id hM
  have hn := hT.1
  refine go_aload0 C (pc := 0) dX8_corePieces_0 ?_
  refine go_iload1 C (pc := 1) dX8_corePieces_1 ?_
  refine go_ciV1 C (pc := 2) obj_25 (c_X8_isDepth C.fl C.ok _ _ ) gX8_corePieces_X8_isDepth rfl rfl yok_X8_isDepth ⟨rfl, rfl⟩ ⟨Nat.le_of_ble_eq_true rfl, Nat.le_of_ble_eq_true rfl⟩ (Nat.le_of_ble_eq_true rfl) ⟨Nat.zero_le _, Nat.zero_le _⟩ dX8_corePieces_2 (fun r11 μ11 hc11 => ?_)
  obtain ⟨rfl, hm11⟩ := hc11
  replace hm11 := hm11.symm
  subst hm11
  refine go_if_ne C (pc := 5) (tgt := 10) dX8_corePieces_5 (by decide) (fun h5 => ?_) (fun h5 => ?_)
  · have hcd := dz h5
    obtain ⟨k, hk, rfl⟩ := cdK_ex hcd
    obtain ⟨K, hK⟩ : ∃ K, K = coreI th pr k (allI n) := ⟨_, rfl⟩
    have hKs : sm K := by rw [hK]; exact sm_core (sm_all hn)
    have hKn : sub K (allI n) := by rw [hK]; exact core_sub
    have key : ∀ i, i ≤ n → Go p l e (headSpec wsX8_corePieces (RM 3 70)).room s m ([.ref (ad 25), .int (nI k)] : List Value).toArray below meth c 0 0 (MQ below (va_Qi (fun (r : Int32) (μ' : Mem) => ((inR (nI k) 0 15 = false ∧ μ' 25 7 = 1) ∨ ∃ k1, k1 ≤ 15 ∧ (nI k) = nI k1 ∧ r = nI (piecesI th (coreI th pr k1 (allI n)) 16).1 ∧ μ' 25 7 = 0) ∧ kp μ μ' [25]) (fun μ' t => PreW D ad cI cL μ' t) (AW ad)) ([.ref (ad 25), .int (nI k)] : List Value).toArray s 0 0 (AW ad)) (AW ad) D ad cI cL 8 21 [some (.ref (ad 25)), some (.int (nI k)), some (.int (piecesI th K i).2), some (.int (nI (piecesI th K i).1)), some (.int (nI i)), none, none, none] [] (mset μ 25 (upd (μ 25) 7 (cdK (nI k)))) := by
      refine dn_ind ?_ ?_
      · refine go_iload4 C (pc := 21) dX8_corePieces_21 ?_
        refine go_aload0 C (pc := 23) dX8_corePieces_23 ?_
        refine go_get C (pc := 24) 25 (by decide) rfl rfl 0 (by decide) rfl rfl hi_X8_corePieces_RX8 lk_X8_corePieces_7 dX8_corePieces_24 ?_
        refine go_iconst C (pc := 27) (v := 0) (by decide) dX8_corePieces_27 ?_
        refine go_top (y := nI 0) (by first | rfl | decide +kernel) ?_
        refine go_ialdN C (pc := 28) arr_26 (i := 0) (by omega) dX8_corePieces_28 ?_
        refine go_top (y := nI n) hs0 ?_
        refine go_icmp_ge C (pc := 29) (tgt := 130) dX8_corePieces_29 (by decide) (fun h29 => ?_) (fun h29 => ?_)
        · refine go_iload3 C (pc := 130) dX8_corePieces_130 ?_
          exact go_iret C hr dX8_corePieces_131 (⟨Or.inr ⟨k, hk, rfl, by rw [← hK, show (16 : Nat) = n + (16 - n) by omega, pieces_cut hn hKn (16 - n) (by omega) (pieces_sep hT hKs n hn).1], hcd⟩, ⟨⟨rfl, rfl, rfl⟩, (by repeat' (first | exact same_rf | refine same_ms ?_ (by decide)))⟩⟩)
        · exact absurd (nI_le (Nat.le_refl _) (by omega)) h29
      · intro i hi ih
        obtain ⟨L, hL⟩ : ∃ L, L = (piecesI th K i).2 := ⟨_, rfl⟩
        obtain ⟨a, ha⟩ : ∃ a, a = (piecesI th K i).1 := ⟨_, rfl⟩
        have hsep : sepP th K L := by rw [hL]; exact pieces_sep hT hKs i (by omega)
        have hgo : bt L i = true → Go p l e (headSpec wsX8_corePieces (RM 3 70)).room s m ([.ref (ad 25), .int (nI k)] : List Value).toArray below meth c 0 0 (MQ below (va_Qi (fun (r : Int32) (μ' : Mem) => ((inR (nI k) 0 15 = false ∧ μ' 25 7 = 1) ∨ ∃ k1, k1 ≤ 15 ∧ (nI k) = nI k1 ∧ r = nI (piecesI th (coreI th pr k1 (allI n)) 16).1 ∧ μ' 25 7 = 0) ∧ kp μ μ' [25]) (fun μ' t => PreW D ad cI cL μ' t) (AW ad)) ([.ref (ad 25), .int (nI k)] : List Value).toArray s 0 0 (AW ad)) (AW ad) D ad cI cL 8 50 [some (.ref (ad 25)), some (.int (nI k)), some (.int L), some (.int (nI a)), some (.int (nI i)), some (.int (pieceI th K i)), some (.int (pieceI th K i)), none] [] (mset μ 25 (upd (μ 25) 7 (cdK (nI k)))) ∧ ∀ f S W, 16 - ct S < f → sub S (pieceI th K i) → bt S i = true → ¬ W = S → Go p l e (headSpec wsX8_corePieces (RM 3 70)).room s m ([.ref (ad 25), .int (nI k)] : List Value).toArray below meth c 0 0 (MQ below (va_Qi (fun (r : Int32) (μ' : Mem) => ((inR (nI k) 0 15 = false ∧ μ' 25 7 = 1) ∨ ∃ k1, k1 ≤ 15 ∧ (nI k) = nI k1 ∧ r = nI (piecesI th (coreI th pr k1 (allI n)) 16).1 ∧ μ' 25 7 = 0) ∧ kp μ μ' [25]) (fun μ' t => PreW D ad cI cL μ' t) (AW ad)) ([.ref (ad 25), .int (nI k)] : List Value).toArray s 0 0 (AW ad)) (AW ad) D ad cI cL 8 50 [some (.ref (ad 25)), some (.int (nI k)), some (.int L), some (.int (nI a)), some (.int (nI i)), some (.int S), some (.int W), none] [] (mset μ 25 (upd (μ 25) 7 (cdK (nI k)))) := by
          intro hbi
          have hi16 : i < 16 := by omega
          have keyE : Go p l e (headSpec wsX8_corePieces (RM 3 70)).room s m ([.ref (ad 25), .int (nI k)] : List Value).toArray below meth c 0 0 (MQ below (va_Qi (fun (r : Int32) (μ' : Mem) => ((inR (nI k) 0 15 = false ∧ μ' 25 7 = 1) ∨ ∃ k1, k1 ≤ 15 ∧ (nI k) = nI k1 ∧ r = nI (piecesI th (coreI th pr k1 (allI n)) 16).1 ∧ μ' 25 7 = 0) ∧ kp μ μ' [25]) (fun μ' t => PreW D ad cI cL μ' t) (AW ad)) ([.ref (ad 25), .int (nI k)] : List Value).toArray s 0 0 (AW ad)) (AW ad) D ad cI cL 8 50 [some (.ref (ad 25)), some (.int (nI k)), some (.int L), some (.int (nI a)), some (.int (nI i)), some (.int (pieceI th K i)), some (.int (pieceI th K i)), none] [] (mset μ 25 (upd (μ 25) 7 (cdK (nI k)))) := by
            refine go_iload6 C (pc := 50) dX8_corePieces_50 ?_
            refine go_iload5 C (pc := 52) dX8_corePieces_52 ?_
            refine go_icmp_eq C (pc := 54) (tgt := 114) dX8_corePieces_54 (by decide) (fun h54 => ?_) (fun h54 => ?_)
            · refine go_iload2 C (pc := 114) dX8_corePieces_114 ?_
              refine go_iload5 C (pc := 115) dX8_corePieces_115 ?_
              refine go_iconst C (pc := 117) (v := -1) (by decide) dX8_corePieces_117 ?_
              refine go_ixor C (pc := 118) dX8_corePieces_118 ?_
              refine go_iand C (pc := 119) dX8_corePieces_119 ?_
              refine go_istore2 C (pc := 120) dX8_corePieces_120 ?_
              refine go_iinc3 C (pc := 121) (v := 1) dX8_corePieces_121 (by decide) ?_
              refine go_iinc4 C (pc := 124) (v := 1) dX8_corePieces_124 (by decide) ?_
              refine go_goto C (pc := 127) (tgt := 21) dX8_corePieces_127 (by decide) ?_
              exact go_drop5 (go_drop6 (go_lv (by rw [nI_1, nI_1, piecesI, ← hL, if_pos hbi, ← ha]) ih))
            · exact absurd rfl h54
          refine ⟨keyE, fun f => ?_⟩
          induction f with
          | zero => exact fun S W hf => absurd hf (Nat.not_lt_zero _)
          | succ f ihf =>
            intro S0 W hf hS0 hSi hW
            have key2 : ∀ q, q ≤ n → ∀ S, pcI th K i S0 S q → Go p l e (headSpec wsX8_corePieces (RM 3 70)).room s m ([.ref (ad 25), .int (nI k)] : List Value).toArray below meth c 0 0 (MQ below (va_Qi (fun (r : Int32) (μ' : Mem) => ((inR (nI k) 0 15 = false ∧ μ' 25 7 = 1) ∨ ∃ k1, k1 ≤ 15 ∧ (nI k) = nI k1 ∧ r = nI (piecesI th (coreI th pr k1 (allI n)) 16).1 ∧ μ' 25 7 = 0) ∧ kp μ μ' [25]) (fun μ' t => PreW D ad cI cL μ' t) (AW ad)) ([.ref (ad 25), .int (nI k)] : List Value).toArray s 0 0 (AW ad)) (AW ad) D ad cI cL 8 64 [some (.ref (ad 25)), some (.int (nI k)), some (.int L), some (.int (nI a)), some (.int (nI i)), some (.int S), some (.int S0), some (.int (nI q))] [] (mset μ 25 (upd (μ 25) 7 (cdK (nI k)))) := by
              refine dn_ind ?_ ?_
              · intro S hI
                refine go_iload7 C (pc := 64) dX8_corePieces_64 ?_
                refine go_aload0 C (pc := 66) dX8_corePieces_66 ?_
                refine go_get C (pc := 67) 25 (by decide) rfl rfl 0 (by decide) rfl rfl hi_X8_corePieces_RX8 lk_X8_corePieces_7 dX8_corePieces_67 ?_
                refine go_iconst C (pc := 70) (v := 0) (by decide) dX8_corePieces_70 ?_
                refine go_top (y := nI 0) (by first | rfl | decide +kernel) ?_
                refine go_ialdN C (pc := 71) arr_26 (i := 0) (by omega) dX8_corePieces_71 ?_
                refine go_top (y := nI n) hs0 ?_
                refine go_icmp_ge C (pc := 72) (tgt := 111) dX8_corePieces_72 (by decide) (fun h72 => ?_) (fun h72 => ?_)
                · refine go_goto C (pc := 111) (tgt := 50) dX8_corePieces_111 (by decide) ?_
                  exact go_drop7 (by
                    rcases pc_end hT hKs hKn hi16 (hsep.1 i hbi) hI with ⟨e1, e2⟩ | hlt
                    · subst e1
                      rw [e2]; exact keyE
                    · exact ihf S S0 (by have := ct_le S; omega) hI.1 hI.2.1 (fun e => by rw [e] at hlt; exact Nat.lt_irrefl _ hlt))
                · exact absurd (nI_le (Nat.le_refl _) (by omega)) h72
              · intro q hq ih2 S hI
                refine go_iload7 C (pc := 64) dX8_corePieces_64 ?_
                refine go_aload0 C (pc := 66) dX8_corePieces_66 ?_
                refine go_get C (pc := 67) 25 (by decide) rfl rfl 0 (by decide) rfl rfl hi_X8_corePieces_RX8 lk_X8_corePieces_7 dX8_corePieces_67 ?_
                refine go_iconst C (pc := 70) (v := 0) (by decide) dX8_corePieces_70 ?_
                refine go_top (y := nI 0) (by first | rfl | decide +kernel) ?_
                refine go_ialdN C (pc := 71) arr_26 (i := 0) (by omega) dX8_corePieces_71 ?_
                refine go_top (y := nI n) hs0 ?_
                refine go_icmp_ge C (pc := 72) (tgt := 111) dX8_corePieces_72 (by decide) (fun h72 => ?_) (fun h72 => ?_)
                · exact absurd h72 (nI_ge hq (by omega))
                · refine go_iload5 C (pc := 75) dX8_corePieces_75 ?_
                  refine go_iload5 C (pc := 77) dX8_corePieces_77 ?_
                  refine go_iload7 C (pc := 79) dX8_corePieces_79 ?_
                  refine go_ciS2 C (pc := 81) (c_X8_has C.fl C.ok _ _ _ (by omega)) gX8_corePieces_X8_has rfl yok_X8_has ⟨rfl, rfl⟩ ⟨Nat.le_of_ble_eq_true rfl, Nat.le_of_ble_eq_true rfl⟩ (Nat.le_of_ble_eq_true rfl) ⟨Nat.zero_le _, Nat.zero_le _⟩ dX8_corePieces_81 (fun r5 μ5 hc5 => ?_)
                  obtain ⟨rfl, hm5⟩ := hc5
                  replace hm5 := hm5.symm
                  subst hm5
                  refine go_if_eq C (pc := 84) (tgt := 101) dX8_corePieces_84 (by decide) (fun h84 => ?_) (fun h84 => ?_)
                  · refine go_iconst C (pc := 101) (v := 0) (by decide) dX8_corePieces_101 ?_
                    refine go_ior C (pc := 102) dX8_corePieces_102 ?_
                    refine go_istore5 C (pc := 103) dX8_corePieces_103 ?_
                    refine go_iinc7 C (pc := 105) (v := 1) dX8_corePieces_105 (by decide) ?_
                    refine go_goto C (pc := 108) (tgt := 64) dX8_corePieces_108 (by decide) ?_
                    exact go_lv (by rw [nI_1, Int32.or_zero]) (ih2 S (pc_no hI (bpos h84)))
                  · refine go_aload0 C (pc := 87) dX8_corePieces_87 ?_
                    refine go_get C (pc := 88) 25 (by decide) rfl rfl 0 (by decide) rfl rfl hi_X8_corePieces_RX8 lk_X8_corePieces_7 dX8_corePieces_88 ?_
                    refine go_iconst C (pc := 91) (v := 2) (by decide) dX8_corePieces_91 ?_
                    refine go_iload7 C (pc := 92) dX8_corePieces_92 ?_
                    refine go_iadd C (pc := 94) dX8_corePieces_94 ?_
                    refine go_top (y := nI (2 + q)) (by rw [show (2 : Int32) = nI 2 from by decide +kernel, nI_add]) ?_
                    refine go_ialdN C (pc := 95) arr_26 (i := (2 + q)) (by omega) dX8_corePieces_95 ?_
                    refine go_top (y := th q) (hth _ (by omega)) ?_
                    refine go_iload2 C (pc := 96) dX8_corePieces_96 ?_
                    refine go_iand C (pc := 97) dX8_corePieces_97 ?_
                    refine go_goto C (pc := 98) (tgt := 102) dX8_corePieces_98 (by decide) ?_
                    refine go_ior C (pc := 102) dX8_corePieces_102 ?_
                    refine go_istore5 C (pc := 103) dX8_corePieces_103 ?_
                    refine go_iinc7 C (pc := 105) (v := 1) dX8_corePieces_105 (by decide) ?_
                    refine go_goto C (pc := 108) (tgt := 64) dX8_corePieces_108 (by decide) ?_
                    exact go_lv (by rw [nI_1, pc_step hsep hi16 hbi (show q < 16 by omega) hKs hI.1 (bneg h84)]) (ih2 _ (pc_yes hKs hi16 (by omega) hI (bneg h84)))
            refine go_iload6 C (pc := 50) dX8_corePieces_50 ?_
            refine go_iload5 C (pc := 52) dX8_corePieces_52 ?_
            refine go_icmp_eq C (pc := 54) (tgt := 114) dX8_corePieces_54 (by decide) (fun h54 => ?_) (fun h54 => ?_)
            · exact absurd h54 hW
            · refine go_iload5 C (pc := 57) dX8_corePieces_57 ?_
              refine go_istore6 C (pc := 59) dX8_corePieces_59 ?_
              refine go_iconst C (pc := 61) (v := 0) (by decide) dX8_corePieces_61 ?_
              refine go_istore7 C (pc := 62) dX8_corePieces_62 ?_
              exact go_lv (by rw [nI_0]) (key2 0 (Nat.zero_le _) S0 (pc_0 hS0 hSi))
        refine go_lv (lv' := [some (.ref (ad 25)), some (.int (nI k)), some (.int L), some (.int (nI a)), some (.int (nI i)), none, none, none]) (by rw [hL, ha]) ?_
        refine go_iload4 C (pc := 21) dX8_corePieces_21 ?_
        refine go_aload0 C (pc := 23) dX8_corePieces_23 ?_
        refine go_get C (pc := 24) 25 (by decide) rfl rfl 0 (by decide) rfl rfl hi_X8_corePieces_RX8 lk_X8_corePieces_7 dX8_corePieces_24 ?_
        refine go_iconst C (pc := 27) (v := 0) (by decide) dX8_corePieces_27 ?_
        refine go_top (y := nI 0) (by first | rfl | decide +kernel) ?_
        refine go_ialdN C (pc := 28) arr_26 (i := 0) (by omega) dX8_corePieces_28 ?_
        refine go_top (y := nI n) hs0 ?_
        refine go_icmp_ge C (pc := 29) (tgt := 130) dX8_corePieces_29 (by decide) (fun h29 => ?_) (fun h29 => ?_)
        · exact absurd h29 (nI_ge hi (by omega))
        · refine go_iload2 C (pc := 32) dX8_corePieces_32 ?_
          refine go_iload4 C (pc := 33) dX8_corePieces_33 ?_
          refine go_ciS2 C (pc := 35) (c_X8_has C.fl C.ok _ _ _ (by omega)) gX8_corePieces_X8_has rfl yok_X8_has ⟨rfl, rfl⟩ ⟨Nat.le_of_ble_eq_true rfl, Nat.le_of_ble_eq_true rfl⟩ (Nat.le_of_ble_eq_true rfl) ⟨Nat.zero_le _, Nat.zero_le _⟩ dX8_corePieces_35 (fun r9 μ9 hc9 => ?_)
          obtain ⟨rfl, hm9⟩ := hc9
          replace hm9 := hm9.symm
          subst hm9
          refine go_if_eq C (pc := 38) (tgt := 124) dX8_corePieces_38 (by decide) (fun h38 => ?_) (fun h38 => ?_)
          · refine go_iinc4 C (pc := 124) (v := 1) dX8_corePieces_124 (by decide) ?_
            refine go_goto C (pc := 127) (tgt := 21) dX8_corePieces_127 (by decide) ?_
            exact go_lv (by rw [nI_1, hL, ha, piecesI, if_neg (by rw [← hL, bpos h38]; decide)]) ih
          · refine go_iconst C (pc := 41) (v := 1) (by decide) dX8_corePieces_41 ?_
            refine go_iload4 C (pc := 42) dX8_corePieces_42 ?_
            refine go_ishl C (pc := 44) dX8_corePieces_44 ?_
            refine go_istore5 C (pc := 45) dX8_corePieces_45 ?_
            refine go_iconst C (pc := 47) (v := 0) (by decide) dX8_corePieces_47 ?_
            refine go_istore6 C (pc := 48) dX8_corePieces_48 ?_
            exact (hgo (bneg h38)).2 (16 - ct (bitI (nI i)) + 1) (bitI (nI i)) 0 (Nat.lt_succ_self _) (bit_sub (by omega) (piece_at (by omega))) (bit_at (by omega)) (fun e => by have := bit_at (j := i) (by omega); rw [← e, b_0] at this; cases this)
    refine go_aload0 C (pc := 10) dX8_corePieces_10 ?_
    refine go_iload1 C (pc := 11) dX8_corePieces_11 ?_
    refine go_ciV1 C (pc := 12) obj_25 (c_X8_cored C.fl C.ok _ _ hM hT (by omega)) gX8_corePieces_X8_cored rfl rfl yok_X8_cored ⟨rfl, rfl⟩ ⟨Nat.le_of_ble_eq_true rfl, Nat.le_of_ble_eq_true rfl⟩ (Nat.le_of_ble_eq_true rfl) ⟨Nat.zero_le _, Nat.zero_le _⟩ dX8_corePieces_12 (fun r13 μ13 hc13 => ?_)
    obtain ⟨rfl, hm13⟩ := hc13
    replace hm13 := hm13.symm
    subst hm13
    refine go_istore2 C (pc := 15) dX8_corePieces_15 ?_
    refine go_iconst C (pc := 16) (v := 0) (by decide) dX8_corePieces_16 ?_
    refine go_istore3 C (pc := 17) dX8_corePieces_17 ?_
    refine go_iconst C (pc := 18) (v := 0) (by decide) dX8_corePieces_18 ?_
    refine go_istore4 C (pc := 19) dX8_corePieces_19 ?_
    exact go_lv (by rw [nI_0, ← hK]; rfl) (key 0 (Nat.zero_le _))
  · refine go_iconst C (pc := 8) (v := 0) (by decide) dX8_corePieces_8 ?_
    exact go_iret C hr dX8_corePieces_9 (⟨Or.inl (cdK_no (dnz h5)), ⟨⟨rfl, rfl, rfl⟩, (by repeat' (first | exact same_rf | refine same_ms ?_ (by decide)))⟩⟩)

