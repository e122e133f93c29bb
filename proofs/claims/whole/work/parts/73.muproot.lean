/-! ===== ThornCoresModel: uproot ===== -/
def upS (s : Nat → Int32) (j i : Nat) : Nat → Int32 := fun a => if 2 + j ≤ a ∧ a < 2 + i then s (a + 1) else s a
theorem upS_0 (s : Nat → Int32) (j : Nat) : upS s j j = s := by funext a; simp only [upS]; rw [if_neg (by omega)]
theorem upS_s (s : Nat → Int32) {j i : Nat} (h : j ≤ i) : upd (upS s j i) (2 + i) (upS s j i (2 + i + 1)) = upS s j (i + 1) := by
  funext a
  by_cases e : a = 2 + i
  · subst e; rw [pk_us]; simp only [upS]; rw [if_neg (by omega), if_pos (by omega)]
  · rw [pk_un e]; simp only [upS]
    by_cases q : 2 + j ≤ a ∧ a < 2 + i
    · rw [if_pos q, if_pos (by omega)]
    · rw [if_neg q, if_neg (by omega)]
def wtS (s : Nat → Int32) (x : Int32) (i : Nat) : Nat → Int32 := fun a => if 2 ≤ a ∧ a < 2 + i then wthI (s a) x else s a
theorem wtS_0 (s : Nat → Int32) (x : Int32) : wtS s x 0 = s := by funext a; simp only [wtS]; rw [if_neg (by omega)]
theorem wtS_s (s : Nat → Int32) (x : Int32) (i : Nat) : upd (wtS s x i) (2 + i) (wthI (wtS s x i (2 + i)) x) = wtS s x (i + 1) := by
  funext a
  by_cases e : a = 2 + i
  · subst e; rw [pk_us]; simp only [wtS]; rw [if_neg (by omega), if_pos (by omega)]
  · rw [pk_un e]; simp only [wtS]
    by_cases q : 2 ≤ a ∧ a < 2 + i
    · rw [if_pos q, if_pos (by omega)]
    · rw [if_neg q, if_neg (by omega)]
theorem wth_close {x p : Int32} (hx : sm x) : wthI x p = closeG x p := by
  have e : (x >>> ((1 : Int32) &&& 31)) = (x.toUInt32 >>> ((1 : Int32).toUInt32 &&& Int32.toUInt32 31)).toInt32 := b_ext (fun i hi => by
    rw [show bt (x >>> ((1 : Int32) &&& 31)) i = _ from b_sshr 1 (by decide) x hi, show bt ((x.toUInt32 >>> ((1 : Int32).toUInt32 &&& Int32.toUInt32 31)).toInt32) i = _ from b_ushr 1 (by decide) x i]
    by_cases q : 1 + i < 32
    · rw [if_pos q]
    · rw [if_neg q, hx 31 (by decide), hx (1 + i) (by omega)])
  unfold wthI closeG bitI
  rw [e]
theorem close_0 (p : Int32) : closeG 0 p = 0 := by
  rw [← wth_close sm_0]
  unfold wthI
  rw [show ((0 : Int32) >>> ((1 : Int32) &&& 31)) = 0 from by decide +kernel]
  refine b_ext (fun i _ => ?_)
  rw [b_or, b_and, b_and, b_0]; rfl
theorem up_row {n j : Nat} {pr : Int32} {th s : Nat → Int32} (hT : TV n pr th) (hj : j < n) (hs : ∀ a, a < 16 → s (2 + a) = th a) : ∀ a, a < 16 → wtS (upd (upd (upS s j (n - 1)) 0 (nI (n - 1))) (2 + (n - 1)) 0) (nI j) (n - 1) (2 + a) = pullT th j a := fun a ha => by
  have hn := hT.1
  simp only [pullT, clF, shF, wtS]
  rw [if_pos ha]
  by_cases c : a < n - 1
  · rw [if_pos (by omega), pk_un (by omega), pk_un (by omega)]
    simp only [upS]
    by_cases d : j ≤ a
    · rw [if_pos (by omega), if_pos ⟨d, ha⟩, if_pos (by omega), show 2 + a + 1 = 2 + (a + 1) by omega, hs (a + 1) (by omega), wth_close (sm_row hT (by omega))]
    · rw [if_neg (by omega), if_neg (by omega), hs a ha, wth_close (sm_row hT ha)]
  · rw [if_neg (by omega)]
    have e0 : (if j ≤ a ∧ a < 16 then (if a + 1 < 16 then th (a + 1) else 0) else th a) = 0 := by
      rw [if_pos (by omega)]
      by_cases d : a + 1 < 16
      · rw [if_pos d]; exact row_0 hT (by omega) d
      · rw [if_neg d]
    rw [e0, close_0]
    by_cases e : a = n - 1
    · rw [e, pk_us]
    · rw [pk_un (by omega), pk_un (by omega)]
      simp only [upS]
      rw [if_neg (by omega), hs a ha]
      exact row_0 hT (by omega) ha
theorem yok_X8_uproot : yOK yX8_uproot 1 := by unfold yOK; decide +kernel
theorem hi_X8_uproot_RX8 : ∀ w ∈ wsX80, w ∈ wsX8_uproot := by decide +kernel
theorem lk_X8_uproot_7 : Cond.fieldLink RX8 7 "ThornCoresModel" "s" "[I" ∈ wsX8_uproot := by decide +kernel
set_option maxRecDepth 20000 in
set_option maxHeartbeats 4000000 in
theorem c_X8_uproot {l : Launch} {D : va_G} {ad : Nat → Nat} {cI cL : ClassId} (hfl : l.flags = flags0) (hok : adOK ad) (μ : Mem) (p0 : Int32) {n : Nat} {pr : Int32} {th : Nat → Int32} (hM : Mo μ n pr th) (hT : TV n pr th) {q : Nat} {h : Nat → Nat → Int32} (hH : MH μ q h) : CtI l D ad cI cL yX8_uproot wsX8_uproot (RM 3 64) [.ref (ad 25), .int p0] μ (fun (r : Int32) (μ' : Mem) => (hasB (nI n) p0 = false ∧ μ' 25 7 = 1 ∧ kp μ μ' [25]) ∨ ∃ j1, j1 < n ∧ p0 = nI j1 ∧ r = nI (ct (th j1)) ∧ Mo μ' (n - 1) (closeG pr (nI j1)) (pullT th j1) ∧ MH μ' (remM q) (remH q h (stV (nI n) pr th)) ∧ μ' 25 7 = 0 ∧ (μ' 25 4 = μ 25 4 ∧ μ' 25 6 = μ 25 6) ∧ same μ μ' [25, 26, 27]) := by
  refine ct_i (cc := cX8_uproot) (maxL := 4) (own := RX8) .int hfl hok (by decide) rfl rfl rfl (Nat.le_of_ble_eq_true rfl) (fun p e s m below meth c C hr => ?_)
  refine go_lv (lv' := [some (.ref (ad 25)), some (.int p0), none, none]) rfl ?_
  obtain ⟨hs0, hs1, hth⟩ := id hM
  have hn := hT.1
  refine go_aload0 C (pc := 0) dX8_uproot_0 ?_
  refine go_iload1 C (pc := 1) dX8_uproot_1 ?_
  refine go_ciV1 C (pc := 2) obj_25 (c_X8_isThere C.fl C.ok _ _ hM hT) gX8_uproot_X8_isThere rfl rfl yok_X8_isThere ⟨rfl, rfl⟩ ⟨Nat.le_of_ble_eq_true rfl, Nat.le_of_ble_eq_true rfl⟩ (Nat.le_of_ble_eq_true rfl) ⟨Nat.zero_le _, Nat.zero_le _⟩ dX8_uproot_2 (fun r7 μ7 hc7 => ?_)
  obtain ⟨rfl, hm7⟩ := hc7
  replace hm7 := hm7.symm
  subst hm7
  refine go_if_ne C (pc := 5) (tgt := 10) dX8_uproot_5 (by decide) (fun h5 => ?_) (fun h5 => ?_)
  · have hcd := dz h5
    obtain ⟨j, hj, rfl⟩ := cd1_ex hn hcd
    refine go_aload0 C (pc := 10) dX8_uproot_10 ?_
    refine go_cvV0 C (pc := 11) obj_25 (c_X8_record C.fl C.ok (mset μ 25 (upd (μ 25) 7 (cd1 (nI n) (nI j)))) hM hT hH) gX8_uproot_X8_record rfl rfl yok_X8_record ⟨rfl, rfl⟩ ⟨Nat.le_of_ble_eq_true rfl, Nat.le_of_ble_eq_true rfl⟩ (Nat.le_of_ble_eq_true rfl) ⟨Nat.zero_le _, Nat.zero_le _⟩ dX8_uproot_11 (fun μ9 hc9 => ?_)
    have hR := hc9
    obtain ⟨M, hMM⟩ : ∃ M, M = μ9 := ⟨_, rfl⟩
    rw [← hMM] at hR
    refine go_mem hMM.symm ?_
    obtain ⟨hH1, hf1, hsm1⟩ := hR
    have e26 : M 26 = μ 26 := hsm1 26 (by decide)
    have hpr : sm pr := fun i hi => by
      cases w : bt pr i
      · rfl
      · exact absurd (hT.2.1 i w) (by omega)
    have key2 : ∀ x, x ≤ n - 1 → Go p l e (headSpec wsX8_uproot (RM 3 64)).room s m ([.ref (ad 25), .int (nI j)] : List Value).toArray below meth c 0 0 (MQ below (va_Qi (fun (r : Int32) (μ' : Mem) => (hasB (nI n) (nI j) = false ∧ μ' 25 7 = 1 ∧ kp μ μ' [25]) ∨ ∃ j1, j1 < n ∧ (nI j) = nI j1 ∧ r = nI (ct (th j1)) ∧ Mo μ' (n - 1) (closeG pr (nI j1)) (pullT th j1) ∧ MH μ' (remM q) (remH q h (stV (nI n) pr th)) ∧ μ' 25 7 = 0 ∧ (μ' 25 4 = μ 25 4 ∧ μ' 25 6 = μ 25 6) ∧ same μ μ' [25, 26, 27]) (fun μ' t => PreW D ad cI cL μ' t) (AW ad)) ([.ref (ad 25), .int (nI j)] : List Value).toArray s 0 0 (AW ad)) (AW ad) D ad cI cL 4 90 [some (.ref (ad 25)), some (.int (nI j)), some (.int (nI (ct (th j)))), some (.int (nI x))] [] (mset M 26 (wtS (upd (upd (upS (μ 26) j (n - 1)) 0 (nI (n - 1))) (2 + (n - 1)) 0) (nI j) x)) := by
      refine dn_ind ?_ ?_
      · refine go_iload3 C (pc := 90) dX8_uproot_90 ?_
        refine go_aload0 C (pc := 91) dX8_uproot_91 ?_
        refine go_get C (pc := 92) 25 (by decide) rfl rfl 0 (by decide) rfl rfl hi_X8_uproot_RX8 lk_X8_uproot_7 dX8_uproot_92 ?_
        refine go_iconst C (pc := 95) (v := 0) (by decide) dX8_uproot_95 ?_
        refine go_top (y := nI 0) (by first | rfl | decide +kernel) ?_
        refine go_ialdN C (pc := 96) arr_26 (i := 0) (by omega) dX8_uproot_96 ?_
        refine go_top (y := nI (n - 1)) ((show wtS (upd (upd (upS (μ 26) j (n - 1)) 0 (nI (n - 1))) (2 + (n - 1)) 0) (nI j) (n - 1) 0 = nI (n - 1) by unfold wtS; rw [if_neg (by omega), pk_un (by omega), pk_us])) ?_
        refine go_icmp_ge C (pc := 97) (tgt := 126) dX8_uproot_97 (by decide) (fun h97 => ?_) (fun h97 => ?_)
        · refine go_aload0 C (pc := 126) dX8_uproot_126 ?_
          refine go_get C (pc := 127) 25 (by decide) rfl rfl 0 (by decide) rfl rfl hi_X8_uproot_RX8 lk_X8_uproot_7 dX8_uproot_127 ?_
          refine go_iconst C (pc := 130) (v := 1) (by decide) dX8_uproot_130 ?_
          refine go_aload0 C (pc := 131) dX8_uproot_131 ?_
          refine go_get C (pc := 132) 25 (by decide) rfl rfl 0 (by decide) rfl rfl hi_X8_uproot_RX8 lk_X8_uproot_7 dX8_uproot_132 ?_
          refine go_iconst C (pc := 135) (v := 1) (by decide) dX8_uproot_135 ?_
          refine go_top (y := nI 1) (by first | rfl | decide +kernel) ?_
          refine go_ialdN C (pc := 136) arr_26 (i := 1) (by omega) dX8_uproot_136 ?_
          refine go_iload1 C (pc := 137) dX8_uproot_137 ?_
          refine go_ciS2 C (pc := 138) (c_X8_without C.fl C.ok _ _ _ ) gX8_uproot_X8_without rfl yok_X8_without ⟨rfl, rfl⟩ ⟨Nat.le_of_ble_eq_true rfl, Nat.le_of_ble_eq_true rfl⟩ (Nat.le_of_ble_eq_true rfl) ⟨Nat.zero_le _, Nat.zero_le _⟩ dX8_uproot_138 (fun r2 μ2 hc2 => ?_)
          obtain ⟨rfl, hm2⟩ := hc2
          replace hm2 := hm2.symm
          subst hm2
          refine go_iastC C (pc := 141) arr_26 (i := 1) (by first | rfl | decide +kernel) (by omega) dX8_uproot_141 ?_
          refine go_iload2 C (pc := 142) dX8_uproot_142 ?_
          exact go_iret C hr dX8_uproot_143 (Or.inr ⟨j, hj, rfl, rfl, ⟨(show wtS (upd (upd (upS (μ 26) j (n - 1)) 0 (nI (n - 1))) (2 + (n - 1)) 0) (nI j) (n - 1) 0 = nI (n - 1) by unfold wtS; rw [if_neg (by omega), pk_un (by omega), pk_us]), (show wthI (wtS (upd (upd (upS (μ 26) j (n - 1)) 0 (nI (n - 1))) (2 + (n - 1)) 0) (nI j) (n - 1) 1) (nI j) = closeG pr (nI j) by rw [show wtS (upd (upd (upS (μ 26) j (n - 1)) 0 (nI (n - 1))) (2 + (n - 1)) 0) (nI j) (n - 1) 1 = pr by unfold wtS; rw [if_neg (by omega), pk_un (by omega), pk_un (by omega)]; unfold upS; rw [if_neg (by omega)]; exact hs1]; exact wth_close hpr), fun a ha => (pk_un (by omega)).trans (up_row hT hj hth a ha)⟩, hH1, (hf1 7 (by decide)).trans hcd, ⟨hf1 4 (by decide), hf1 6 (by decide)⟩, same_tr (same_tr (same_ms (f := upd (μ 25) 7 (cd1 (nI n) (nI j))) (L := [25]) same_rf (by decide)) hsm1 (L := [25, 27]) (by decide) (by decide)) (by repeat' (first | exact same_rf | refine same_ms (L := [26]) ?_ (by decide))) (by decide) (by decide)⟩)
        · exact absurd (nI_le (Nat.le_refl _) (by omega)) h97
      · intro x hx ih
        refine go_iload3 C (pc := 90) dX8_uproot_90 ?_
        refine go_aload0 C (pc := 91) dX8_uproot_91 ?_
        refine go_get C (pc := 92) 25 (by decide) rfl rfl 0 (by decide) rfl rfl hi_X8_uproot_RX8 lk_X8_uproot_7 dX8_uproot_92 ?_
        refine go_iconst C (pc := 95) (v := 0) (by decide) dX8_uproot_95 ?_
        refine go_top (y := nI 0) (by first | rfl | decide +kernel) ?_
        refine go_ialdN C (pc := 96) arr_26 (i := 0) (by omega) dX8_uproot_96 ?_
        refine go_top (y := nI (n - 1)) ((show wtS (upd (upd (upS (μ 26) j (n - 1)) 0 (nI (n - 1))) (2 + (n - 1)) 0) (nI j) x 0 = nI (n - 1) by unfold wtS; rw [if_neg (by omega), pk_un (by omega), pk_us])) ?_
        refine go_icmp_ge C (pc := 97) (tgt := 126) dX8_uproot_97 (by decide) (fun h97 => ?_) (fun h97 => ?_)
        · exact absurd h97 (nI_ge hx (by omega))
        · refine go_aload0 C (pc := 100) dX8_uproot_100 ?_
          refine go_get C (pc := 101) 25 (by decide) rfl rfl 0 (by decide) rfl rfl hi_X8_uproot_RX8 lk_X8_uproot_7 dX8_uproot_101 ?_
          refine go_iconst C (pc := 104) (v := 2) (by decide) dX8_uproot_104 ?_
          refine go_iload3 C (pc := 105) dX8_uproot_105 ?_
          refine go_iadd C (pc := 106) dX8_uproot_106 ?_
          refine go_top (y := nI (2 + x)) (by rw [show (2 : Int32) = nI 2 from by decide +kernel, nI_add]) ?_
          refine go_aload0 C (pc := 107) dX8_uproot_107 ?_
          refine go_get C (pc := 108) 25 (by decide) rfl rfl 0 (by decide) rfl rfl hi_X8_uproot_RX8 lk_X8_uproot_7 dX8_uproot_108 ?_
          refine go_iconst C (pc := 111) (v := 2) (by decide) dX8_uproot_111 ?_
          refine go_iload3 C (pc := 112) dX8_uproot_112 ?_
          refine go_iadd C (pc := 113) dX8_uproot_113 ?_
          refine go_top (y := nI (2 + x)) (by rw [show (2 : Int32) = nI 2 from by decide +kernel, nI_add]) ?_
          refine go_ialdN C (pc := 114) arr_26 (i := (2 + x)) (by omega) dX8_uproot_114 ?_
          refine go_iload1 C (pc := 115) dX8_uproot_115 ?_
          refine go_ciS2 C (pc := 116) (c_X8_without C.fl C.ok _ _ _ ) gX8_uproot_X8_without rfl yok_X8_without ⟨rfl, rfl⟩ ⟨Nat.le_of_ble_eq_true rfl, Nat.le_of_ble_eq_true rfl⟩ (Nat.le_of_ble_eq_true rfl) ⟨Nat.zero_le _, Nat.zero_le _⟩ dX8_uproot_116 (fun r4 μ4 hc4 => ?_)
          obtain ⟨rfl, hm4⟩ := hc4
          replace hm4 := hm4.symm
          subst hm4
          refine go_iastN C (pc := 119) arr_26 (i := (2 + x)) (by omega) dX8_uproot_119 ?_
          refine go_iinc3 C (pc := 120) (v := 1) dX8_uproot_120 (by decide) ?_
          refine go_goto C (pc := 123) (tgt := 90) dX8_uproot_123 (by decide) ?_
          exact go_lv (by rw [nI_1]) (go_mem (show _ = mset M 26 (wtS (upd (upd (upS (μ 26) j (n - 1)) 0 (nI (n - 1))) (2 + (n - 1)) 0) (nI j) (x + 1)) from by rw [← wtS_s]; exact mset_mset M 26 _ _) ih)
    have key1 : ∀ x, x ≤ n - 1 → j ≤ x → Go p l e (headSpec wsX8_uproot (RM 3 64)).room s m ([.ref (ad 25), .int (nI j)] : List Value).toArray below meth c 0 0 (MQ below (va_Qi (fun (r : Int32) (μ' : Mem) => (hasB (nI n) (nI j) = false ∧ μ' 25 7 = 1 ∧ kp μ μ' [25]) ∨ ∃ j1, j1 < n ∧ (nI j) = nI j1 ∧ r = nI (ct (th j1)) ∧ Mo μ' (n - 1) (closeG pr (nI j1)) (pullT th j1) ∧ MH μ' (remM q) (remH q h (stV (nI n) pr th)) ∧ μ' 25 7 = 0 ∧ (μ' 25 4 = μ 25 4 ∧ μ' 25 6 = μ 25 6) ∧ same μ μ' [25, 26, 27]) (fun μ' t => PreW D ad cI cL μ' t) (AW ad)) ([.ref (ad 25), .int (nI j)] : List Value).toArray s 0 0 (AW ad)) (AW ad) D ad cI cL 4 28 [some (.ref (ad 25)), some (.int (nI j)), some (.int (nI (ct (th j)))), some (.int (nI x))] [] (mset M 26 (upS (μ 26) j x)) := by
      refine dn_ind ?_ ?_
      · intro hjx
        refine go_iload3 C (pc := 28) dX8_uproot_28 ?_
        refine go_aload0 C (pc := 29) dX8_uproot_29 ?_
        refine go_get C (pc := 30) 25 (by decide) rfl rfl 0 (by decide) rfl rfl hi_X8_uproot_RX8 lk_X8_uproot_7 dX8_uproot_30 ?_
        refine go_iconst C (pc := 33) (v := 0) (by decide) dX8_uproot_33 ?_
        refine go_top (y := nI 0) (by first | rfl | decide +kernel) ?_
        refine go_ialdN C (pc := 34) arr_26 (i := 0) (by omega) dX8_uproot_34 ?_
        refine go_top (y := nI (n)) ((show upS (μ 26) j (n - 1) 0 = nI n by unfold upS; rw [if_neg (by omega)]; exact hs0)) ?_
        refine go_iconst C (pc := 35) (v := 1) (by decide) dX8_uproot_35 ?_
        refine go_isub C (pc := 36) dX8_uproot_36 ?_
        refine go_top (y := nI (n - 1)) (by show nI n - 1 = nI (n - 1); rw [show (1 : Int32) = nI 1 from by decide +kernel, pk_sub (by omega)]) ?_
        refine go_icmp_ge C (pc := 37) (tgt := 64) dX8_uproot_37 (by decide) (fun h37 => ?_) (fun h37 => ?_)
        · refine go_aload0 C (pc := 64) dX8_uproot_64 ?_
          refine go_get C (pc := 65) 25 (by decide) rfl rfl 0 (by decide) rfl rfl hi_X8_uproot_RX8 lk_X8_uproot_7 dX8_uproot_65 ?_
          refine go_iconst C (pc := 68) (v := 0) (by decide) dX8_uproot_68 ?_
          refine go_dup2 C (pc := 69) rfl rfl dX8_uproot_69 ?_
          refine go_top (y := nI 0) (by first | rfl | decide +kernel) ?_
          refine go_ialdN C (pc := 70) arr_26 (i := 0) (by omega) dX8_uproot_70 ?_
          refine go_top (y := nI (n)) ((show upS (μ 26) j (n - 1) 0 = nI n by unfold upS; rw [if_neg (by omega)]; exact hs0)) ?_
          refine go_iconst C (pc := 71) (v := 1) (by decide) dX8_uproot_71 ?_
          refine go_isub C (pc := 72) dX8_uproot_72 ?_
          refine go_top (y := nI (n - 1)) (by show nI n - 1 = nI (n - 1); rw [show (1 : Int32) = nI 1 from by decide +kernel, pk_sub (by omega)]) ?_
          refine go_iastC C (pc := 73) arr_26 (i := 0) (by first | rfl | decide +kernel) (by omega) dX8_uproot_73 ?_
          refine go_aload0 C (pc := 74) dX8_uproot_74 ?_
          refine go_get C (pc := 75) 25 (by decide) rfl rfl 0 (by decide) rfl rfl hi_X8_uproot_RX8 lk_X8_uproot_7 dX8_uproot_75 ?_
          refine go_iconst C (pc := 78) (v := 2) (by decide) dX8_uproot_78 ?_
          refine go_aload0 C (pc := 79) dX8_uproot_79 ?_
          refine go_get C (pc := 80) 25 (by decide) rfl rfl 0 (by decide) rfl rfl hi_X8_uproot_RX8 lk_X8_uproot_7 dX8_uproot_80 ?_
          refine go_iconst C (pc := 83) (v := 0) (by decide) dX8_uproot_83 ?_
          refine go_top (y := nI 0) (by first | rfl | decide +kernel) ?_
          refine go_ialdN C (pc := 84) arr_26 (i := 0) (by omega) dX8_uproot_84 ?_
          refine go_top (y := nI (n - 1)) (rfl) ?_
          refine go_iadd C (pc := 85) dX8_uproot_85 ?_
          refine go_top (y := nI (2 + (n - 1))) (by rw [show (2 : Int32) = nI 2 from by decide +kernel, nI_add]) ?_
          refine go_iconst C (pc := 86) (v := 0) (by decide) dX8_uproot_86 ?_
          refine go_iastN C (pc := 87) arr_26 (i := (2 + (n - 1))) (by omega) dX8_uproot_87 ?_
          refine go_iconst C (pc := 88) (v := 0) (by decide) dX8_uproot_88 ?_
          refine go_istore3 C (pc := 89) dX8_uproot_89 ?_
          exact go_lv (by rw [nI_0]) (go_mem (show _ = mset M 26 (wtS (upd (upd (upS (μ 26) j (n - 1)) 0 (nI (n - 1))) (2 + (n - 1)) 0) (nI j) 0) from by rw [wtS_0, mset_mset, mset_mset]; rfl) (key2 0 (Nat.zero_le _)))
        · exact absurd (nI_le (Nat.le_refl _) (by omega)) h37
      · intro x hx ih hjx
        refine go_iload3 C (pc := 28) dX8_uproot_28 ?_
        refine go_aload0 C (pc := 29) dX8_uproot_29 ?_
        refine go_get C (pc := 30) 25 (by decide) rfl rfl 0 (by decide) rfl rfl hi_X8_uproot_RX8 lk_X8_uproot_7 dX8_uproot_30 ?_
        refine go_iconst C (pc := 33) (v := 0) (by decide) dX8_uproot_33 ?_
        refine go_top (y := nI 0) (by first | rfl | decide +kernel) ?_
        refine go_ialdN C (pc := 34) arr_26 (i := 0) (by omega) dX8_uproot_34 ?_
        refine go_top (y := nI (n)) ((show upS (μ 26) j x 0 = nI n by unfold upS; rw [if_neg (by omega)]; exact hs0)) ?_
        refine go_iconst C (pc := 35) (v := 1) (by decide) dX8_uproot_35 ?_
        refine go_isub C (pc := 36) dX8_uproot_36 ?_
        refine go_top (y := nI (n - 1)) (by show nI n - 1 = nI (n - 1); rw [show (1 : Int32) = nI 1 from by decide +kernel, pk_sub (by omega)]) ?_
        refine go_icmp_ge C (pc := 37) (tgt := 64) dX8_uproot_37 (by decide) (fun h37 => ?_) (fun h37 => ?_)
        · exact absurd h37 (nI_ge hx (by omega))
        · refine go_aload0 C (pc := 40) dX8_uproot_40 ?_
          refine go_get C (pc := 41) 25 (by decide) rfl rfl 0 (by decide) rfl rfl hi_X8_uproot_RX8 lk_X8_uproot_7 dX8_uproot_41 ?_
          refine go_iconst C (pc := 44) (v := 2) (by decide) dX8_uproot_44 ?_
          refine go_iload3 C (pc := 45) dX8_uproot_45 ?_
          refine go_iadd C (pc := 46) dX8_uproot_46 ?_
          refine go_top (y := nI (2 + x)) (by rw [show (2 : Int32) = nI 2 from by decide +kernel, nI_add]) ?_
          refine go_aload0 C (pc := 47) dX8_uproot_47 ?_
          refine go_get C (pc := 48) 25 (by decide) rfl rfl 0 (by decide) rfl rfl hi_X8_uproot_RX8 lk_X8_uproot_7 dX8_uproot_48 ?_
          refine go_iconst C (pc := 51) (v := 2) (by decide) dX8_uproot_51 ?_
          refine go_iload3 C (pc := 52) dX8_uproot_52 ?_
          refine go_iadd C (pc := 53) dX8_uproot_53 ?_
          refine go_top (y := nI (2 + x)) (by rw [show (2 : Int32) = nI 2 from by decide +kernel, nI_add]) ?_
          refine go_iconst C (pc := 54) (v := 1) (by decide) dX8_uproot_54 ?_
          refine go_iadd C (pc := 55) dX8_uproot_55 ?_
          refine go_top (y := nI ((2 + x) + 1)) (by rw [show (1 : Int32) = nI 1 from by decide +kernel, nI_add]) ?_
          refine go_ialdN C (pc := 56) arr_26 (i := ((2 + x) + 1)) (by omega) dX8_uproot_56 ?_
          refine go_iastN C (pc := 57) arr_26 (i := (2 + x)) (by omega) dX8_uproot_57 ?_
          refine go_iinc3 C (pc := 58) (v := 1) dX8_uproot_58 (by decide) ?_
          refine go_goto C (pc := 61) (tgt := 28) dX8_uproot_61 (by decide) ?_
          exact go_lv (by rw [nI_1]) (go_mem (show _ = mset M 26 (upS (μ 26) j (x + 1)) from by rw [← upS_s _ hjx]; exact mset_mset M 26 _ _) (ih (by omega)))
    refine go_aload0 C (pc := 14) dX8_uproot_14 ?_
    refine go_get C (pc := 15) 25 (by decide) rfl rfl 0 (by decide) rfl rfl hi_X8_uproot_RX8 lk_X8_uproot_7 dX8_uproot_15 ?_
    refine go_iconst C (pc := 18) (v := 2) (by decide) dX8_uproot_18 ?_
    refine go_iload1 C (pc := 19) dX8_uproot_19 ?_
    refine go_iadd C (pc := 20) dX8_uproot_20 ?_
    refine go_top (y := nI (2 + j)) (by rw [show (2 : Int32) = nI 2 from by decide +kernel, nI_add]) ?_
    refine go_ialdN C (pc := 21) arr_26 (i := (2 + j)) (by omega) dX8_uproot_21 ?_
    refine go_top (y := th j) ((congrFun e26 (2 + j)).trans (hth j (by omega))) ?_
    refine go_ciS1 C (pc := 22) (c_X8_bits C.fl C.ok _ _ ) gX8_uproot_X8_bits rfl yok_X8_bits ⟨rfl, rfl⟩ ⟨Nat.le_of_ble_eq_true rfl, Nat.le_of_ble_eq_true rfl⟩ (Nat.le_of_ble_eq_true rfl) ⟨Nat.zero_le _, Nat.zero_le _⟩ dX8_uproot_22 (fun r10 μ10 hc10 => ?_)
    obtain ⟨rfl, hm10⟩ := hc10
    replace hm10 := hm10.symm
    subst hm10
    refine go_istore2 C (pc := 25) dX8_uproot_25 ?_
    refine go_iload1 C (pc := 26) dX8_uproot_26 ?_
    refine go_istore3 C (pc := 27) dX8_uproot_27 ?_
    exact go_mem (show M = mset M 26 (upS (μ 26) j j) from by rw [upS_0, ← e26]; exact (mset_id M 26).symm) (key1 j (by omega) (Nat.le_refl _))
  · refine go_iconst C (pc := 8) (v := 0) (by decide) dX8_uproot_8 ?_
    exact go_iret C hr dX8_uproot_9 (Or.inl ⟨(cd1_no (dnz h5)).1, (cd1_no (dnz h5)).2, ⟨⟨rfl, rfl, rfl⟩, (by repeat' (first | exact same_rf | refine same_ms ?_ (by decide)))⟩⟩)

