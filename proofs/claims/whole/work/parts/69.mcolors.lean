/-! ===== ThornCoresModel: colors, places ===== -/
theorem upd_upd (G : Nat → Int32) (k : Nat) (a b : Int32) : upd (upd G k a) k b = upd G k b := by
  funext j
  by_cases h : j = k
  · subst h; rw [pk_us, pk_us]
  · rw [pk_un h, pk_un h, pk_un h]
theorem tk_room {n : Nat} {pr : Int32} {th : Nat → Int32} (hT : TV n pr th) {g : Nat → Nat} (hg : ∀ q, g q ≤ 15) {p : Nat} (hp : p < 16) (S : Int32) : ct (tkI g (S &&& th p) n) ≤ 15 := by
  have h1 := ct_tk (g := g) (S := S &&& th p) hg n
  have h2 : ct (S &&& th p) = fb_ct (bt (S &&& th p)) n := ct_n hT.1 (fun i hi h16 => by
    rw [b_and]
    cases q : bt (th p) i
    · rw [Bool.and_false]
    · exact absurd (hT.2.2.1 p i hp q).2.1 (by omega))
  have h3 : ct (S &&& th p) ≤ ct (th p) := ct_sub (fun i _ hi => by rw [b_and, Bool.and_eq_true] at hi; exact hi.2)
  have h4 := ct_th hT hp
  omega
theorem yok_X8_colorsAll : yOK yX8_colorsAll 0 := by unfold yOK; decide +kernel
theorem hi_X8_colorsAll_RX8 : ∀ w ∈ wsX80, w ∈ wsX8_colorsAll := by decide +kernel
theorem lk_X8_colorsAll_25 : Cond.fieldLink RX8 25 "ThornCoresModel" "color" "[I" ∈ wsX8_colorsAll := by decide +kernel
theorem lk_X8_colorsAll_7 : Cond.fieldLink RX8 7 "ThornCoresModel" "s" "[I" ∈ wsX8_colorsAll := by decide +kernel
theorem lk_X8_colorsAll_22 : Cond.fieldLink RX8 22 "ThornCoresModel" "order" "[I" ∈ wsX8_colorsAll := by decide +kernel
set_option maxRecDepth 20000 in
set_option maxHeartbeats 4000000 in
theorem c_X8_colorsAll {l : Launch} {D : va_G} {ad : Nat → Nat} {cI cL : ClassId} (hfl : l.flags = flags0) (hok : adOK ad) (μ : Mem) {n : Nat} {pr : Int32} {th : Nat → Int32} (hM : Mo μ n pr th) (hT : TV n pr th) : CtV l D ad cI cL yX8_colorsAll wsX8_colorsAll (RM 2 49) [.ref (ad 25)] μ (fun (μ' : Mem) => ∃ F G, μ' = mset (mset μ 30 F) 31 G ∧ ∀ q, q < n → G q = nI (colN th pr n q)) := by
  refine ct_v (cc := cX8_colorsAll) (maxL := 6) (own := RX8) hfl hok (by decide) rfl rfl rfl (Nat.le_of_ble_eq_true rfl) (fun p e s m below meth c C hr => ?_)
  refine go_lv (lv' := [some (.ref (ad 25)), none, none, none, none, none]) rfl ?_
  obtain ⟨hs0, hs1, hth⟩ := id hM
  have hn := hT.1
  have key : ∀ F, (∀ x, x < n → F x = nI (ordN th pr n x)) → ∀ k, k ≤ n → ∀ G, (∀ q, bt (colS th pr n k).2 q = true → G q = nI ((colS th pr n k).1 q)) → Go p l e (headSpec wsX8_colorsAll (RM 2 49)).room s m ([.ref (ad 25)] : List Value).toArray below meth c 0 0 (MQ below (va_Qv (fun (μ' : Mem) => ∃ F G, μ' = mset (mset μ 30 F) 31 G ∧ ∀ q, q < n → G q = nI (colN th pr n q)) (fun μ' t => PreW D ad cI cL μ' t) (AW ad)) ([.ref (ad 25)] : List Value).toArray s 0 0 (AW ad)) (AW ad) D ad cI cL 6 15 [some (.ref (ad 25)), some (.int (colS th pr n k).2), some (.int (nI n - 1 - nI k)), none, none, none] [] (mset (mset μ 30 F) 31 G) := by
    intro F hF
    refine dn_ind ?_ ?_
    · intro G hG
      refine go_iload2 C (pc := 15) dX8_colorsAll_15 ?_
      refine go_if_lt C (pc := 16) (tgt := 131) dX8_colorsAll_16 (by decide) (fun h16 => ?_) (fun h16 => ?_)
      · exact go_vret C hr dX8_colorsAll_131 (⟨F, G, rfl, fun q hq => hG q (col_all hT hq)⟩)
      · exact absurd (by rw [down_neg hn]; decide) h16
    · intro k hk ih G hG
      have ho := (ord_in hT (show n - 1 - k < n by omega)).1
      obtain ⟨P, hP⟩ : ∃ P, P = ordN th pr n (n - 1 - k) := ⟨_, rfl⟩
      rw [← hP] at ho
      obtain ⟨S, hS⟩ : ∃ S, S = (colS th pr n k).2 &&& th P := ⟨_, rfl⟩
      obtain ⟨T, hTT⟩ : ∃ T, T = tkI (colS th pr n k).1 S n := ⟨_, rfl⟩
      have hgS : ∀ q, bt S q = true → G q = nI ((colS th pr n k).1 q) := fun q hq => hG q (by rw [hS, b_and, Bool.and_eq_true] at hq; exact hq.1)
      have hroom : ct T ≤ 15 := by rw [hTT, hS]; exact tk_room hT (colS_le k) (by omega) _
      have hST : (colS th pr n (k + 1)) = (updN (colS th pr n k).1 P (lcN T), (colS th pr n k).2 ||| bitI (nI P)) := by
        rw [hTT, hS, colS, ← hP, show th P &&& (colS th pr n k).2 = (colS th pr n k).2 &&& th P from b_ext fun t _ => by rw [b_and, b_and, Bool.and_comm]]
      have key9 : ∀ z, z ≤ 15 → (∀ x, x < z → bt T x = true) → Go p l e (headSpec wsX8_colorsAll (RM 2 49)).room s m ([.ref (ad 25)] : List Value).toArray below meth c 0 0 (MQ below (va_Qv (fun (μ' : Mem) => ∃ F G, μ' = mset (mset μ 30 F) 31 G ∧ ∀ q, q < n → G q = nI (colN th pr n q)) (fun μ' t => PreW D ad cI cL μ' t) (AW ad)) ([.ref (ad 25)] : List Value).toArray s 0 0 (AW ad)) (AW ad) D ad cI cL 6 92 [some (.ref (ad 25)), some (.int (colS th pr n k).2), some (.int (nI (n - 1 - k))), some (.int (nI P)), some (.int T), none] [] (mset (mset μ 30 F) 31 (upd G P (nI z))) := by
        refine dn_ind ?_ ?_
        · intro hx
          refine go_iload4 C (pc := 92) dX8_colorsAll_92 ?_
          refine go_aload0 C (pc := 94) dX8_colorsAll_94 ?_
          refine go_get C (pc := 95) 25 (by decide) rfl rfl 9 (by decide) rfl rfl hi_X8_colorsAll_RX8 lk_X8_colorsAll_25 dX8_colorsAll_95 ?_
          refine go_iload3 C (pc := 98) dX8_colorsAll_98 ?_
          refine go_ialdN C (pc := 99) arr_31 (i := P) (by omega) dX8_colorsAll_99 ?_
          refine go_top (y := nI (15)) (pk_us) ?_
          refine go_ciS2 C (pc := 100) (c_X8_has C.fl C.ok _ _ _ (by omega)) gX8_colorsAll_X8_has rfl yok_X8_has ⟨rfl, rfl⟩ ⟨Nat.le_of_ble_eq_true rfl, Nat.le_of_ble_eq_true rfl⟩ (Nat.le_of_ble_eq_true rfl) ⟨Nat.zero_le _, Nat.zero_le _⟩ dX8_colorsAll_100 (fun r2 μ2 hc2 => ?_)
          obtain ⟨rfl, hm2⟩ := hc2
          replace hm2 := hm2.symm
          subst hm2
          refine go_if_eq C (pc := 103) (tgt := 119) dX8_colorsAll_103 (by decide) (fun h103 => ?_) (fun h103 => ?_)
          · refine go_iload1 C (pc := 119) dX8_colorsAll_119 ?_
            refine go_iconst C (pc := 120) (v := 1) (by decide) dX8_colorsAll_120 ?_
            refine go_iload3 C (pc := 121) dX8_colorsAll_121 ?_
            refine go_ishl C (pc := 122) dX8_colorsAll_122 ?_
            refine go_ior C (pc := 123) dX8_colorsAll_123 ?_
            refine go_istore1 C (pc := 124) dX8_colorsAll_124 ?_
            refine go_iinc2 C (pc := 125) (v := -1) dX8_colorsAll_125 (by decide) ?_
            refine go_goto C (pc := 128) (tgt := 15) dX8_colorsAll_128 (by decide) ?_
            refine go_drop3 (go_drop4 (go_lv (by rw [down_s hk hn, show (colS th pr n (k + 1)).2 = (colS th pr n k).2 ||| bitI (nI P) by rw [hST]]; rfl) (ih _ (fun q hq => ?_))))
            rw [hST] at hq ⊢
            rw [lc_at (Nat.le_refl _) hx (bpos h103)]
            by_cases e : q = P
            · subst e; exact pk_us.trans (congrArg nI (updN_same _ _ _).symm)
            · rw [b_or, bitI, b_bit (by omega), decide_eq_false e, Bool.or_false] at hq
              exact (pk_un e).trans ((hG q hq).trans (congrArg nI (updN_ne _ _ e).symm))
          · exact absurd (ct_full (x := T) (fun x hx16 => by
              rcases Nat.lt_or_ge x 15 with w | w
              · exact hx x w
              · rw [show x = 15 by omega]; exact bneg h103)) (by omega)
        · intro z hz ihc hx
          refine go_iload4 C (pc := 92) dX8_colorsAll_92 ?_
          refine go_aload0 C (pc := 94) dX8_colorsAll_94 ?_
          refine go_get C (pc := 95) 25 (by decide) rfl rfl 9 (by decide) rfl rfl hi_X8_colorsAll_RX8 lk_X8_colorsAll_25 dX8_colorsAll_95 ?_
          refine go_iload3 C (pc := 98) dX8_colorsAll_98 ?_
          refine go_ialdN C (pc := 99) arr_31 (i := P) (by omega) dX8_colorsAll_99 ?_
          refine go_top (y := nI (z)) (pk_us) ?_
          refine go_ciS2 C (pc := 100) (c_X8_has C.fl C.ok _ _ _ (by omega)) gX8_colorsAll_X8_has rfl yok_X8_has ⟨rfl, rfl⟩ ⟨Nat.le_of_ble_eq_true rfl, Nat.le_of_ble_eq_true rfl⟩ (Nat.le_of_ble_eq_true rfl) ⟨Nat.zero_le _, Nat.zero_le _⟩ dX8_colorsAll_100 (fun r4 μ4 hc4 => ?_)
          obtain ⟨rfl, hm4⟩ := hc4
          replace hm4 := hm4.symm
          subst hm4
          refine go_if_eq C (pc := 103) (tgt := 119) dX8_colorsAll_103 (by decide) (fun h103 => ?_) (fun h103 => ?_)
          · refine go_iload1 C (pc := 119) dX8_colorsAll_119 ?_
            refine go_iconst C (pc := 120) (v := 1) (by decide) dX8_colorsAll_120 ?_
            refine go_iload3 C (pc := 121) dX8_colorsAll_121 ?_
            refine go_ishl C (pc := 122) dX8_colorsAll_122 ?_
            refine go_ior C (pc := 123) dX8_colorsAll_123 ?_
            refine go_istore1 C (pc := 124) dX8_colorsAll_124 ?_
            refine go_iinc2 C (pc := 125) (v := -1) dX8_colorsAll_125 (by decide) ?_
            refine go_goto C (pc := 128) (tgt := 15) dX8_colorsAll_128 (by decide) ?_
            refine go_drop3 (go_drop4 (go_lv (by rw [down_s hk hn, show (colS th pr n (k + 1)).2 = (colS th pr n k).2 ||| bitI (nI P) by rw [hST]]; rfl) (ih _ (fun q hq => ?_))))
            rw [hST] at hq ⊢
            rw [lc_at (Nat.le_of_lt hz) hx (bpos h103)]
            by_cases e : q = P
            · subst e; exact pk_us.trans (congrArg nI (updN_same _ _ _).symm)
            · rw [b_or, bitI, b_bit (by omega), decide_eq_false e, Bool.or_false] at hq
              exact (pk_un e).trans ((hG q hq).trans (congrArg nI (updN_ne _ _ e).symm))
          · refine go_aload0 C (pc := 106) dX8_colorsAll_106 ?_
            refine go_get C (pc := 107) 25 (by decide) rfl rfl 9 (by decide) rfl rfl hi_X8_colorsAll_RX8 lk_X8_colorsAll_25 dX8_colorsAll_107 ?_
            refine go_iload3 C (pc := 110) dX8_colorsAll_110 ?_
            refine go_dup2 C (pc := 111) rfl rfl dX8_colorsAll_111 ?_
            refine go_ialdN C (pc := 112) arr_31 (i := P) (by omega) dX8_colorsAll_112 ?_
            refine go_top (y := nI (z)) (pk_us) ?_
            refine go_iconst C (pc := 113) (v := 1) (by decide) dX8_colorsAll_113 ?_
            refine go_iadd C (pc := 114) dX8_colorsAll_114 ?_
            refine go_top (y := nI (z + 1)) (by rw [show (1 : Int32) = nI 1 from by decide +kernel, nI_add]) ?_
            refine go_iastN C (pc := 115) arr_31 (i := P) (by omega) dX8_colorsAll_115 ?_
            refine go_goto C (pc := 116) (tgt := 92) dX8_colorsAll_116 (by decide) ?_
            exact go_mem (show _ = mset (mset μ 30 F) 31 (upd G P (nI (z + 1))) from by rw [mset_mset]; exact congrArg _ (upd_upd _ _ _ _)) (ihc (fun x h => by
              rcases Nat.lt_or_ge x z with w | w
              · exact hx x w
              · rw [show x = z by omega]; exact bneg h103))
      have key3 : ∀ j, j ≤ n → Go p l e (headSpec wsX8_colorsAll (RM 2 49)).room s m ([.ref (ad 25)] : List Value).toArray below meth c 0 0 (MQ below (va_Qv (fun (μ' : Mem) => ∃ F G, μ' = mset (mset μ 30 F) 31 G ∧ ∀ q, q < n → G q = nI (colN th pr n q)) (fun μ' t => PreW D ad cI cL μ' t) (AW ad)) ([.ref (ad 25)] : List Value).toArray s 0 0 (AW ad)) (AW ad) D ad cI cL 6 32 [some (.ref (ad 25)), some (.int (colS th pr n k).2), some (.int (nI (n - 1 - k))), some (.int (nI P)), some (.int (tkI (colS th pr n k).1 S j)), some (.int (nI j))] [] (mset (mset μ 30 F) 31 G) := by
        refine dn_ind ?_ ?_
        · refine go_iload5 C (pc := 32) dX8_colorsAll_32 ?_
          refine go_aload0 C (pc := 34) dX8_colorsAll_34 ?_
          refine go_get C (pc := 35) 25 (by decide) rfl rfl 0 (by decide) rfl rfl hi_X8_colorsAll_RX8 lk_X8_colorsAll_7 dX8_colorsAll_35 ?_
          refine go_iconst C (pc := 38) (v := 0) (by decide) dX8_colorsAll_38 ?_
          refine go_top (y := nI 0) (by first | rfl | decide +kernel) ?_
          refine go_ialdN C (pc := 39) arr_26 (i := 0) (by omega) dX8_colorsAll_39 ?_
          refine go_top (y := nI n) hs0 ?_
          refine go_icmp_ge C (pc := 40) (tgt := 85) dX8_colorsAll_40 (by decide) (fun h40 => ?_) (fun h40 => ?_)
          · refine go_aload0 C (pc := 85) dX8_colorsAll_85 ?_
            refine go_get C (pc := 86) 25 (by decide) rfl rfl 9 (by decide) rfl rfl hi_X8_colorsAll_RX8 lk_X8_colorsAll_25 dX8_colorsAll_86 ?_
            refine go_iload3 C (pc := 89) dX8_colorsAll_89 ?_
            refine go_iconst C (pc := 90) (v := 0) (by decide) dX8_colorsAll_90 ?_
            refine go_iastN C (pc := 91) arr_31 (i := P) (by omega) dX8_colorsAll_91 ?_
            exact go_drop5 (go_lv (by rw [← hTT]) (go_mem (show _ = mset (mset μ 30 F) 31 (upd G P (nI 0)) from by rw [mset_mset]; rfl) (key9 0 (Nat.zero_le _) (fun x h => absurd h (Nat.not_lt_zero x)))))
          · exact absurd (nI_le (Nat.le_refl _) (by omega)) h40
        · intro j hj ihj
          refine go_iload5 C (pc := 32) dX8_colorsAll_32 ?_
          refine go_aload0 C (pc := 34) dX8_colorsAll_34 ?_
          refine go_get C (pc := 35) 25 (by decide) rfl rfl 0 (by decide) rfl rfl hi_X8_colorsAll_RX8 lk_X8_colorsAll_7 dX8_colorsAll_35 ?_
          refine go_iconst C (pc := 38) (v := 0) (by decide) dX8_colorsAll_38 ?_
          refine go_top (y := nI 0) (by first | rfl | decide +kernel) ?_
          refine go_ialdN C (pc := 39) arr_26 (i := 0) (by omega) dX8_colorsAll_39 ?_
          refine go_top (y := nI n) hs0 ?_
          refine go_icmp_ge C (pc := 40) (tgt := 85) dX8_colorsAll_40 (by decide) (fun h40 => ?_) (fun h40 => ?_)
          · exact absurd h40 (nI_ge hj (by omega))
          · refine go_iload4 C (pc := 43) dX8_colorsAll_43 ?_
            refine go_iload1 C (pc := 45) dX8_colorsAll_45 ?_
            refine go_aload0 C (pc := 46) dX8_colorsAll_46 ?_
            refine go_get C (pc := 47) 25 (by decide) rfl rfl 0 (by decide) rfl rfl hi_X8_colorsAll_RX8 lk_X8_colorsAll_7 dX8_colorsAll_47 ?_
            refine go_iconst C (pc := 50) (v := 2) (by decide) dX8_colorsAll_50 ?_
            refine go_iload3 C (pc := 51) dX8_colorsAll_51 ?_
            refine go_iadd C (pc := 52) dX8_colorsAll_52 ?_
            refine go_top (y := nI (2 + P)) (by rw [show (2 : Int32) = nI 2 from by decide +kernel, nI_add]) ?_
            refine go_ialdN C (pc := 53) arr_26 (i := (2 + P)) (by omega) dX8_colorsAll_53 ?_
            refine go_top (y := th P) (hth _ (by omega)) ?_
            refine go_iand C (pc := 54) dX8_colorsAll_54 ?_
            refine go_top (y := S) hS.symm ?_
            refine go_iload5 C (pc := 55) dX8_colorsAll_55 ?_
            refine go_ciS2 C (pc := 57) (c_X8_has C.fl C.ok _ _ _ (by omega)) gX8_colorsAll_X8_has rfl yok_X8_has ⟨rfl, rfl⟩ ⟨Nat.le_of_ble_eq_true rfl, Nat.le_of_ble_eq_true rfl⟩ (Nat.le_of_ble_eq_true rfl) ⟨Nat.zero_le _, Nat.zero_le _⟩ dX8_colorsAll_57 (fun r8 μ8 hc8 => ?_)
            obtain ⟨rfl, hm8⟩ := hc8
            replace hm8 := hm8.symm
            subst hm8
            refine go_if_eq C (pc := 60) (tgt := 75) dX8_colorsAll_60 (by decide) (fun h60 => ?_) (fun h60 => ?_)
            · refine go_iconst C (pc := 75) (v := 0) (by decide) dX8_colorsAll_75 ?_
              refine go_ior C (pc := 76) dX8_colorsAll_76 ?_
              refine go_istore4 C (pc := 77) dX8_colorsAll_77 ?_
              refine go_iinc5 C (pc := 79) (v := 1) dX8_colorsAll_79 (by decide) ?_
              refine go_goto C (pc := 82) (tgt := 32) dX8_colorsAll_82 (by decide) ?_
              exact go_lv (by rw [nI_1, Int32.or_zero, tkI, if_neg (by rw [bpos h60]; decide)]) ihj
            · refine go_iconst C (pc := 63) (v := 1) (by decide) dX8_colorsAll_63 ?_
              refine go_aload0 C (pc := 64) dX8_colorsAll_64 ?_
              refine go_get C (pc := 65) 25 (by decide) rfl rfl 9 (by decide) rfl rfl hi_X8_colorsAll_RX8 lk_X8_colorsAll_25 dX8_colorsAll_65 ?_
              refine go_iload5 C (pc := 68) dX8_colorsAll_68 ?_
              refine go_ialdN C (pc := 70) arr_31 (i := j) (by omega) dX8_colorsAll_70 ?_
              refine go_top (y := nI ((colS th pr n k).1 j)) (hgS j (bneg h60)) ?_
              refine go_ishl C (pc := 71) dX8_colorsAll_71 ?_
              refine go_goto C (pc := 72) (tgt := 76) dX8_colorsAll_72 (by decide) ?_
              refine go_ior C (pc := 76) dX8_colorsAll_76 ?_
              refine go_istore4 C (pc := 77) dX8_colorsAll_77 ?_
              refine go_iinc5 C (pc := 79) (v := 1) dX8_colorsAll_79 (by decide) ?_
              refine go_goto C (pc := 82) (tgt := 32) dX8_colorsAll_82 (by decide) ?_
              exact go_lv (by rw [nI_1, tkI, if_pos (bneg h60)]; rfl) ihj
      refine go_lv (lv' := [some (.ref (ad 25)), some (.int (colS th pr n k).2), some (.int (nI (n - 1 - k))), none, none, none]) (by rw [down_nI hk hn]) ?_
      refine go_iload2 C (pc := 15) dX8_colorsAll_15 ?_
      refine go_if_lt C (pc := 16) (tgt := 131) dX8_colorsAll_16 (by decide) (fun h16 => ?_) (fun h16 => ?_)
      · exact absurd h16 (nI_pos (by omega))
      · refine go_aload0 C (pc := 19) dX8_colorsAll_19 ?_
        refine go_get C (pc := 20) 25 (by decide) rfl rfl 8 (by decide) rfl rfl hi_X8_colorsAll_RX8 lk_X8_colorsAll_22 dX8_colorsAll_20 ?_
        refine go_iload2 C (pc := 23) dX8_colorsAll_23 ?_
        refine go_ialdN C (pc := 24) arr_30 (i := (n - 1 - k)) (by omega) dX8_colorsAll_24 ?_
        refine go_top (y := nI (P)) (by rw [hP]; exact hF _ (by omega)) ?_
        refine go_istore3 C (pc := 25) dX8_colorsAll_25 ?_
        refine go_iconst C (pc := 26) (v := 0) (by decide) dX8_colorsAll_26 ?_
        refine go_istore4 C (pc := 27) dX8_colorsAll_27 ?_
        refine go_iconst C (pc := 29) (v := 0) (by decide) dX8_colorsAll_29 ?_
        refine go_istore5 C (pc := 30) dX8_colorsAll_30 ?_
        exact go_lv (by rw [nI_0]; rfl) (key3 0 (Nat.zero_le _))
  refine go_aload0 C (pc := 0) dX8_colorsAll_0 ?_
  refine go_cvV0 C (pc := 1) obj_25 (c_X8_falls C.fl C.ok _ hM hT) gX8_colorsAll_X8_falls rfl rfl yok_X8_falls ⟨rfl, rfl⟩ ⟨Nat.le_of_ble_eq_true rfl, Nat.le_of_ble_eq_true rfl⟩ (Nat.le_of_ble_eq_true rfl) ⟨Nat.zero_le _, Nat.zero_le _⟩ dX8_colorsAll_1 (fun μ11 hc11 => ?_)
  obtain ⟨F, rfl, hF⟩ := hc11
  refine go_iconst C (pc := 4) (v := 0) (by decide) dX8_colorsAll_4 ?_
  refine go_istore1 C (pc := 5) dX8_colorsAll_5 ?_
  refine go_aload0 C (pc := 6) dX8_colorsAll_6 ?_
  refine go_get C (pc := 7) 25 (by decide) rfl rfl 0 (by decide) rfl rfl hi_X8_colorsAll_RX8 lk_X8_colorsAll_7 dX8_colorsAll_7 ?_
  refine go_iconst C (pc := 10) (v := 0) (by decide) dX8_colorsAll_10 ?_
  refine go_top (y := nI 0) (by first | rfl | decide +kernel) ?_
  refine go_ialdN C (pc := 11) arr_26 (i := 0) (by omega) dX8_colorsAll_11 ?_
  refine go_top (y := nI n) hs0 ?_
  refine go_iconst C (pc := 12) (v := 1) (by decide) dX8_colorsAll_12 ?_
  refine go_isub C (pc := 13) dX8_colorsAll_13 ?_
  refine go_istore2 C (pc := 14) dX8_colorsAll_14 ?_
  exact go_lv (by rw [nI_0, Int32.sub_zero]; rfl) (go_mem (mset_id (mset μ 30 F) 31).symm (key F hF 0 (Nat.zero_le _) _ (fun q h => absurd h (by rw [show (colS th pr n 0).2 = 0 from rfl, b_0]; decide))))

theorem yok_X8_colorOf : yOK yX8_colorOf 1 := by unfold yOK; decide +kernel
theorem hi_X8_colorOf_RX8 : ∀ w ∈ wsX80, w ∈ wsX8_colorOf := by decide +kernel
theorem lk_X8_colorOf_25 : Cond.fieldLink RX8 25 "ThornCoresModel" "color" "[I" ∈ wsX8_colorOf := by decide +kernel
set_option maxRecDepth 20000 in
set_option maxHeartbeats 4000000 in
theorem c_X8_colorOf {l : Launch} {D : va_G} {ad : Nat → Nat} {cI cL : ClassId} (hfl : l.flags = flags0) (hok : adOK ad) (μ : Mem) (p0 : Int32) {n : Nat} {pr : Int32} {th : Nat → Int32} (hM : Mo μ n pr th) (hT : TV n pr th) : CtI l D ad cI cL yX8_colorOf wsX8_colorOf (RM 3 74) [.ref (ad 25), .int p0] μ (fun (r : Int32) (μ' : Mem) => ((hasB (nI n) p0 = false ∧ μ' 25 7 = 1) ∨ ∃ j, j < n ∧ p0 = nI j ∧ (r = nI (colN th pr n j)) ∧ μ' 25 7 = 0) ∧ kp μ μ' [25, 30, 31]) := by
  refine ct_i (cc := cX8_colorOf) (maxL := 2) (own := RX8) .int hfl hok (by decide) rfl rfl rfl (Nat.le_of_ble_eq_true rfl) (fun p e s m below meth c C hr => ?_)
  refine go_lv (lv' := [some (.ref (ad 25)), some (.int p0)]) rfl ?_
  obtain ⟨hs0, hs1, hth⟩ := id hM
  have hn := hT.1
  refine go_aload0 C (pc := 0) dX8_colorOf_0 ?_
  refine go_iload1 C (pc := 1) dX8_colorOf_1 ?_
  refine go_ciV1 C (pc := 2) obj_25 (c_X8_isThere C.fl C.ok _ _ hM hT) gX8_colorOf_X8_isThere rfl rfl yok_X8_isThere ⟨rfl, rfl⟩ ⟨Nat.le_of_ble_eq_true rfl, Nat.le_of_ble_eq_true rfl⟩ (Nat.le_of_ble_eq_true rfl) ⟨Nat.zero_le _, Nat.zero_le _⟩ dX8_colorOf_2 (fun r1 μ1 hc1 => ?_)
  obtain ⟨rfl, hm1⟩ := hc1
  replace hm1 := hm1.symm
  subst hm1
  refine go_if_ne C (pc := 5) (tgt := 10) dX8_colorOf_5 (by decide) (fun h5 => ?_) (fun h5 => ?_)
  · have hcd := dz h5
    obtain ⟨j, hj, rfl⟩ := cd1_ex hn hcd
    refine go_aload0 C (pc := 10) dX8_colorOf_10 ?_
    refine go_cvV0 C (pc := 11) obj_25 (c_X8_colorsAll C.fl C.ok _ hM hT) gX8_colorOf_X8_colorsAll rfl rfl yok_X8_colorsAll ⟨rfl, rfl⟩ ⟨Nat.le_of_ble_eq_true rfl, Nat.le_of_ble_eq_true rfl⟩ (Nat.le_of_ble_eq_true rfl) ⟨Nat.zero_le _, Nat.zero_le _⟩ dX8_colorOf_11 (fun μ3 hc3 => ?_)
    obtain ⟨F, G, rfl, hG⟩ := hc3
    refine go_aload0 C (pc := 14) dX8_colorOf_14 ?_
    refine go_get C (pc := 15) 25 (by decide) rfl rfl 9 (by decide) rfl rfl hi_X8_colorOf_RX8 lk_X8_colorOf_25 dX8_colorOf_15 ?_
    refine go_iload1 C (pc := 18) dX8_colorOf_18 ?_
    refine go_ialdN C (pc := 19) arr_31 (i := j) (by omega) dX8_colorOf_19 ?_
    exact go_iret C hr dX8_colorOf_20 (⟨Or.inr ⟨j, hj, rfl, hG j hj, hcd⟩, ⟨⟨rfl, rfl, rfl⟩, (by repeat' (first | exact same_rf | refine same_ms ?_ (by decide)))⟩⟩)
  · refine go_iconst C (pc := 8) (v := 0) (by decide) dX8_colorOf_8 ?_
    exact go_iret C hr dX8_colorOf_9 (⟨Or.inl (cd1_no (dnz h5)), ⟨⟨rfl, rfl, rfl⟩, (by repeat' (first | exact same_rf | refine same_ms ?_ (by decide)))⟩⟩)

theorem yok_X8_colors : yOK yX8_colors 0 := by unfold yOK; decide +kernel
theorem hi_X8_colors_RX8 : ∀ w ∈ wsX80, w ∈ wsX8_colors := by decide +kernel
theorem lk_X8_colors_7 : Cond.fieldLink RX8 7 "ThornCoresModel" "s" "[I" ∈ wsX8_colors := by decide +kernel
theorem lk_X8_colors_25 : Cond.fieldLink RX8 25 "ThornCoresModel" "color" "[I" ∈ wsX8_colors := by decide +kernel
theorem lk_X8_colors_31 : Cond.fieldLink RX8 31 "ThornCoresModel" "thrown" "I" ∈ wsX8_colors := by decide +kernel
set_option maxRecDepth 20000 in
set_option maxHeartbeats 4000000 in
theorem c_X8_colors {l : Launch} {D : va_G} {ad : Nat → Nat} {cI cL : ClassId} (hfl : l.flags = flags0) (hok : adOK ad) (μ : Mem) {n : Nat} {pr : Int32} {th : Nat → Int32} (hM : Mo μ n pr th) (hT : TV n pr th) : CtI l D ad cI cL yX8_colors wsX8_colors (RM 3 74) [.ref (ad 25)] μ (fun (r : Int32) (μ' : Mem) => r = nI (colM th pr n n) ∧ μ' 25 7 = 0 ∧ kp μ μ' [25, 30, 31]) := by
  refine ct_i (cc := cX8_colors) (maxL := 3) (own := RX8) .int hfl hok (by decide) rfl rfl rfl (Nat.le_of_ble_eq_true rfl) (fun p e s m below meth c C hr => ?_)
  refine go_lv (lv' := [some (.ref (ad 25)), none, none]) rfl ?_
  obtain ⟨hs0, hs1, hth⟩ := id hM
  have hn := hT.1
  have key : ∀ F G, (∀ q, q < n → G q = nI (colN th pr n q)) → ∀ x, x ≤ n → Go p l e (headSpec wsX8_colors (RM 3 74)).room s m ([.ref (ad 25)] : List Value).toArray below meth c 0 0 (MQ below (va_Qi (fun (r : Int32) (μ' : Mem) => r = nI (colM th pr n n) ∧ μ' 25 7 = 0 ∧ kp μ μ' [25, 30, 31]) (fun μ' t => PreW D ad cI cL μ' t) (AW ad)) ([.ref (ad 25)] : List Value).toArray s 0 0 (AW ad)) (AW ad) D ad cI cL 3 13 [some (.ref (ad 25)), some (.int (nI (colM th pr n x))), some (.int (nI x))] [] (mset (mset (mset μ 25 (upd (μ 25) 7 0)) 30 F) 31 G) := by
    intro F G hG
    refine dn_ind ?_ ?_
    · refine go_iload2 C (pc := 13) dX8_colors_13 ?_
      refine go_aload0 C (pc := 14) dX8_colors_14 ?_
      refine go_get C (pc := 15) 25 (by decide) rfl rfl 0 (by decide) rfl rfl hi_X8_colors_RX8 lk_X8_colors_7 dX8_colors_15 ?_
      refine go_iconst C (pc := 18) (v := 0) (by decide) dX8_colors_18 ?_
      refine go_top (y := nI 0) (by first | rfl | decide +kernel) ?_
      refine go_ialdN C (pc := 19) arr_26 (i := 0) (by omega) dX8_colors_19 ?_
      refine go_top (y := nI n) hs0 ?_
      refine go_icmp_ge C (pc := 20) (tgt := 54) dX8_colors_20 (by decide) (fun h20 => ?_) (fun h20 => ?_)
      · refine go_iload1 C (pc := 54) dX8_colors_54 ?_
        exact go_iret C hr dX8_colors_55 (⟨rfl, rfl, ⟨⟨rfl, rfl, rfl⟩, (by repeat' (first | exact same_rf | refine same_ms ?_ (by decide)))⟩⟩)
      · exact absurd (nI_le (Nat.le_refl _) (by omega)) h20
    · intro x hx ih
      refine go_iload2 C (pc := 13) dX8_colors_13 ?_
      refine go_aload0 C (pc := 14) dX8_colors_14 ?_
      refine go_get C (pc := 15) 25 (by decide) rfl rfl 0 (by decide) rfl rfl hi_X8_colors_RX8 lk_X8_colors_7 dX8_colors_15 ?_
      refine go_iconst C (pc := 18) (v := 0) (by decide) dX8_colors_18 ?_
      refine go_top (y := nI 0) (by first | rfl | decide +kernel) ?_
      refine go_ialdN C (pc := 19) arr_26 (i := 0) (by omega) dX8_colors_19 ?_
      refine go_top (y := nI n) hs0 ?_
      refine go_icmp_ge C (pc := 20) (tgt := 54) dX8_colors_20 (by decide) (fun h20 => ?_) (fun h20 => ?_)
      · exact absurd h20 (nI_ge hx (by omega))
      · refine go_aload0 C (pc := 23) dX8_colors_23 ?_
        refine go_get C (pc := 24) 25 (by decide) rfl rfl 9 (by decide) rfl rfl hi_X8_colors_RX8 lk_X8_colors_25 dX8_colors_24 ?_
        refine go_iload2 C (pc := 27) dX8_colors_27 ?_
        refine go_ialdN C (pc := 28) arr_31 (i := x) (by omega) dX8_colors_28 ?_
        refine go_top (y := nI (colN th pr n x)) (hG x hx) ?_
        refine go_iconst C (pc := 29) (v := 1) (by decide) dX8_colors_29 ?_
        refine go_iadd C (pc := 30) dX8_colors_30 ?_
        refine go_top (y := nI ((colN th pr n x) + 1)) (by rw [show (1 : Int32) = nI 1 from by decide +kernel, nI_add]) ?_
        refine go_iload1 C (pc := 31) dX8_colors_31 ?_
        refine go_icmp_le C (pc := 32) (tgt := 46) dX8_colors_32 (by decide) (fun h32 => ?_) (fun h32 => ?_)
        · refine go_iload1 C (pc := 46) dX8_colors_46 ?_
          refine go_istore1 C (pc := 47) dX8_colors_47 ?_
          refine go_iinc2 C (pc := 48) (v := 1) dX8_colors_48 (by decide) ?_
          refine go_goto C (pc := 51) (tgt := 13) dX8_colors_51 (by decide) ?_
          have hc1 : colN th pr n x ≤ 15 := colS_le n x
          have hc2 := colM_le (th := th) (n := n) (pr := pr) x
          exact go_lv (by rw [nI_1, colM, if_neg (Nat.not_lt.mpr ((nI_leI (by omega) (by omega)).mp h32))]) ih
        · refine go_aload0 C (pc := 35) dX8_colors_35 ?_
          refine go_get C (pc := 36) 25 (by decide) rfl rfl 9 (by decide) rfl rfl hi_X8_colors_RX8 lk_X8_colors_25 dX8_colors_36 ?_
          refine go_iload2 C (pc := 39) dX8_colors_39 ?_
          refine go_ialdN C (pc := 40) arr_31 (i := x) (by omega) dX8_colors_40 ?_
          refine go_top (y := nI (colN th pr n x)) (hG x hx) ?_
          refine go_iconst C (pc := 41) (v := 1) (by decide) dX8_colors_41 ?_
          refine go_iadd C (pc := 42) dX8_colors_42 ?_
          refine go_top (y := nI ((colN th pr n x) + 1)) (by rw [show (1 : Int32) = nI 1 from by decide +kernel, nI_add]) ?_
          refine go_goto C (pc := 43) (tgt := 47) dX8_colors_43 (by decide) ?_
          refine go_istore1 C (pc := 47) dX8_colors_47 ?_
          refine go_iinc2 C (pc := 48) (v := 1) dX8_colors_48 (by decide) ?_
          refine go_goto C (pc := 51) (tgt := 13) dX8_colors_51 (by decide) ?_
          have hc1 : colN th pr n x ≤ 15 := colS_le n x
          have hc2 := colM_le (th := th) (n := n) (pr := pr) x
          exact go_lv (by rw [nI_1, colM, if_pos (Nat.not_le.mp (fun q => h32 (nI_le q (by omega))))]) ih
  refine go_aload0 C (pc := 0) dX8_colors_0 ?_
  refine go_iconst C (pc := 1) (v := 0) (by decide) dX8_colors_1 ?_
  refine go_put C (pc := 2) 25 (by decide) rfl rfl 7 (by decide) rfl hi_X8_colors_RX8 lk_X8_colors_31 tyX8_ok nmX8 rfl rfl rfl (Nat.le_of_ble_eq_true rfl) rfl dX8_colors_2 ?_
  refine go_aload0 C (pc := 5) dX8_colors_5 ?_
  refine go_cvV0 C (pc := 6) obj_25 (c_X8_colorsAll C.fl C.ok _ hM hT) gX8_colors_X8_colorsAll rfl rfl yok_X8_colorsAll ⟨rfl, rfl⟩ ⟨Nat.le_of_ble_eq_true rfl, Nat.le_of_ble_eq_true rfl⟩ (Nat.le_of_ble_eq_true rfl) ⟨Nat.zero_le _, Nat.zero_le _⟩ dX8_colors_6 (fun μ4 hc4 => ?_)
  obtain ⟨F, G, rfl, hG⟩ := hc4
  refine go_iconst C (pc := 9) (v := 0) (by decide) dX8_colors_9 ?_
  refine go_istore1 C (pc := 10) dX8_colors_10 ?_
  refine go_iconst C (pc := 11) (v := 0) (by decide) dX8_colors_11 ?_
  refine go_istore2 C (pc := 12) dX8_colors_12 ?_
  exact go_lv (by rw [nI_0]; rfl) (key F G hG 0 (Nat.zero_le _))

theorem yok_X8_placeOf : yOK yX8_placeOf 1 := by unfold yOK; decide +kernel
theorem hi_X8_placeOf_RX8 : ∀ w ∈ wsX80, w ∈ wsX8_placeOf := by decide +kernel
theorem lk_X8_placeOf_22 : Cond.fieldLink RX8 22 "ThornCoresModel" "order" "[I" ∈ wsX8_placeOf := by decide +kernel
set_option maxRecDepth 20000 in
set_option maxHeartbeats 4000000 in
theorem c_X8_placeOf {l : Launch} {D : va_G} {ad : Nat → Nat} {cI cL : ClassId} (hfl : l.flags = flags0) (hok : adOK ad) (μ : Mem) (p0 : Int32) {n : Nat} {pr : Int32} {th : Nat → Int32} (hM : Mo μ n pr th) (hT : TV n pr th) : CtI l D ad cI cL yX8_placeOf wsX8_placeOf (RM 3 64) [.ref (ad 25), .int p0] μ (fun (r : Int32) (μ' : Mem) => ((hasB (nI n) p0 = false ∧ μ' 25 7 = 1) ∨ ∃ j1, j1 < n ∧ p0 = nI j1 ∧ (∃ x, r = nI x ∧ x < n ∧ ordN th pr n x = j1 ∧ ∀ y, y < x → ordN th pr n y ≠ j1) ∧ μ' 25 7 = 0) ∧ kp μ μ' [25, 30]) := by
  refine ct_i (cc := cX8_placeOf) (maxL := 3) (own := RX8) .int hfl hok (by decide) rfl rfl rfl (Nat.le_of_ble_eq_true rfl) (fun p e s m below meth c C hr => ?_)
  refine go_lv (lv' := [some (.ref (ad 25)), some (.int p0), none]) rfl ?_
  obtain ⟨hs0, hs1, hth⟩ := id hM
  have hn := hT.1
  refine go_aload0 C (pc := 0) dX8_placeOf_0 ?_
  refine go_iload1 C (pc := 1) dX8_placeOf_1 ?_
  refine go_ciV1 C (pc := 2) obj_25 (c_X8_isThere C.fl C.ok _ _ hM hT) gX8_placeOf_X8_isThere rfl rfl yok_X8_isThere ⟨rfl, rfl⟩ ⟨Nat.le_of_ble_eq_true rfl, Nat.le_of_ble_eq_true rfl⟩ (Nat.le_of_ble_eq_true rfl) ⟨Nat.zero_le _, Nat.zero_le _⟩ dX8_placeOf_2 (fun r2 μ2 hc2 => ?_)
  obtain ⟨rfl, hm2⟩ := hc2
  replace hm2 := hm2.symm
  subst hm2
  refine go_if_ne C (pc := 5) (tgt := 10) dX8_placeOf_5 (by decide) (fun h5 => ?_) (fun h5 => ?_)
  · have hcd := dz h5
    obtain ⟨j, hj, rfl⟩ := cd1_ex hn hcd
    refine go_aload0 C (pc := 10) dX8_placeOf_10 ?_
    refine go_cvV0 C (pc := 11) obj_25 (c_X8_falls C.fl C.ok _ hM hT) gX8_placeOf_X8_falls rfl rfl yok_X8_falls ⟨rfl, rfl⟩ ⟨Nat.le_of_ble_eq_true rfl, Nat.le_of_ble_eq_true rfl⟩ (Nat.le_of_ble_eq_true rfl) ⟨Nat.zero_le _, Nat.zero_le _⟩ dX8_placeOf_11 (fun μ4 hc4 => ?_)
    obtain ⟨F, rfl, hF⟩ := hc4
    have key : ∀ x, x ≤ n → (∀ y, y < x → ordN th pr n y ≠ j) → Go p l e (headSpec wsX8_placeOf (RM 3 64)).room s m ([.ref (ad 25), .int (nI j)] : List Value).toArray below meth c 0 0 (MQ below (va_Qi (fun (r : Int32) (μ' : Mem) => ((hasB (nI n) (nI j) = false ∧ μ' 25 7 = 1) ∨ ∃ j1, j1 < n ∧ (nI j) = nI j1 ∧ (∃ x, r = nI x ∧ x < n ∧ ordN th pr n x = j1 ∧ ∀ y, y < x → ordN th pr n y ≠ j1) ∧ μ' 25 7 = 0) ∧ kp μ μ' [25, 30]) (fun μ' t => PreW D ad cI cL μ' t) (AW ad)) ([.ref (ad 25), .int (nI j)] : List Value).toArray s 0 0 (AW ad)) (AW ad) D ad cI cL 3 16 [some (.ref (ad 25)), some (.int (nI j)), some (.int (nI x))] [] (mset (mset μ 25 (upd (μ 25) 7 (cd1 (nI n) (nI j)))) 30 F) := by
      refine dn_ind ?_ ?_
      · intro h
        obtain ⟨z, h1, h2⟩ := ord_onto hT hj
        exact absurd h2 (h z h1)
      · intro x hx ih hno
        have ho := (ord_in hT hx).1
        refine go_aload0 C (pc := 16) dX8_placeOf_16 ?_
        refine go_get C (pc := 17) 25 (by decide) rfl rfl 8 (by decide) rfl rfl hi_X8_placeOf_RX8 lk_X8_placeOf_22 dX8_placeOf_17 ?_
        refine go_iload2 C (pc := 20) dX8_placeOf_20 ?_
        refine go_ialdN C (pc := 21) arr_30 (i := x) (by omega) dX8_placeOf_21 ?_
        refine go_top (y := nI (ordN th pr n x)) (hF x hx) ?_
        refine go_iload1 C (pc := 22) dX8_placeOf_22 ?_
        refine go_icmp_eq C (pc := 23) (tgt := 32) dX8_placeOf_23 (by decide) (fun h23 => ?_) (fun h23 => ?_)
        · refine go_iload2 C (pc := 32) dX8_placeOf_32 ?_
          exact go_iret C hr dX8_placeOf_33 (⟨Or.inr ⟨j, hj, rfl, ⟨x, rfl, hx, nI_inj3 (by omega) (by omega) h23, hno⟩, hcd⟩, ⟨⟨rfl, rfl, rfl⟩, (by repeat' (first | exact same_rf | refine same_ms ?_ (by decide)))⟩⟩)
        · refine go_iinc2 C (pc := 26) (v := 1) dX8_placeOf_26 (by decide) ?_
          refine go_goto C (pc := 29) (tgt := 16) dX8_placeOf_29 (by decide) ?_
          exact go_lv (by rw [nI_1]) (ih (fun y hy => by by_cases e : y = x <;> first | (subst e; exact fun q => h23 (by rw [q])) | (exact hno y (by omega))))
    refine go_iconst C (pc := 14) (v := 0) (by decide) dX8_placeOf_14 ?_
    refine go_istore2 C (pc := 15) dX8_placeOf_15 ?_
    exact go_lv (by rw [nI_0]) (key 0 (Nat.zero_le _) (fun y h => absurd h (Nat.not_lt_zero y)))
  · refine go_iconst C (pc := 8) (v := 0) (by decide) dX8_placeOf_8 ?_
    exact go_iret C hr dX8_placeOf_9 (⟨Or.inl (cd1_no (dnz h5)), ⟨⟨rfl, rfl, rfl⟩, (by repeat' (first | exact same_rf | refine same_ms ?_ (by decide)))⟩⟩)

