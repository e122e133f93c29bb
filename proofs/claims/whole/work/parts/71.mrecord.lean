/-! ===== ThornCoresModel: the history, the snapshot, the text's ends ===== -/
/-- the model's history -/
def MH (μ : Mem) (q : Nat) (h : Nat → Nat → Int32) : Prop := μ 25 2 = nI q ∧ q ≤ 6 ∧ ∀ t, t < q → ∀ k, k < 18 → μ 27 (18 * t + k) = h t k
theorem mo_V {μ : Mem} {n : Nat} {pr : Int32} {th : Nat → Int32} (hM : Mo μ n pr th) {k : Nat} (hk : k < 18) : μ 26 k = stV (nI n) pr th k := by
  obtain ⟨h0, h1, h2⟩ := hM
  unfold stV
  by_cases a : k = 0
  · rw [if_pos a, a]; exact h0
  · by_cases b : k = 1
    · rw [if_neg a, if_pos b, b]; exact h1
    · rw [if_neg a, if_neg b, ← h2 (k - 2) (by omega), show 2 + (k - 2) = k by omega]
def shB (B : Nat → Int32) (i : Nat) : Nat → Int32 := fun j => if j < i then B (18 + j) else B j
theorem shB_0 (B : Nat → Int32) : shB B 0 = B := by funext j; simp [shB]
theorem shB_s (B : Nat → Int32) (i : Nat) : upd (shB B i) i (shB B i (18 + i)) = shB B (i + 1) := by
  funext j
  by_cases e : j = i
  · subst e; rw [pk_us]; simp only [shB]; rw [if_neg (by omega), if_pos (by omega)]
  · rw [pk_un e]; simp only [shB]
    by_cases q : j < i
    · rw [if_pos q, if_pos (by omega)]
    · rw [if_neg q, if_neg (by omega)]
def wrB (B s : Nat → Int32) (y i : Nat) : Nat → Int32 := fun j => if 18 * y ≤ j ∧ j < 18 * y + i then s (j - 18 * y) else B j
theorem wrB_0 (B s : Nat → Int32) (y : Nat) : wrB B s y 0 = B := by
  funext j; simp only [wrB]; rw [if_neg (by omega)]
theorem wrB_s (B s : Nat → Int32) (y i : Nat) : upd (wrB B s y i) (18 * y + i) (s i) = wrB B s y (i + 1) := by
  funext j
  by_cases e : j = 18 * y + i
  · subst e; rw [pk_us]; simp only [wrB]; rw [if_pos (by omega), show 18 * y + i - 18 * y = i by omega]
  · rw [pk_un e]; simp only [wrB]
    by_cases q : 18 * y ≤ j ∧ j < 18 * y + i
    · rw [if_pos q, if_pos (by omega)]
    · rw [if_neg q, if_neg (by omega)]
def recP (μ : Mem) (q : Nat) (h : Nat → Nat → Int32) (V : Nat → Int32) (μ' : Mem) : Prop := MH μ' (remM q) (remH q h V) ∧ (∀ f, f ≠ 2 → μ' 25 f = μ 25 f) ∧ same μ μ' [25, 27]
theorem rec_lo {μ : Mem} {q : Nat} {h : Nat → Nat → Int32} {V : Nat → Int32} (hH : MH μ q h) (hq : q ≠ 6) (hV : ∀ k, k < 18 → μ 26 k = V k) : recP μ q h V (mset (mset μ 27 (wrB (μ 27) (μ 26) q 18)) 25 (upd (μ 25) 2 (nI (q + 1)))) := by
  obtain ⟨h1, h2, h3⟩ := hH
  refine ⟨⟨by rw [remM, if_neg hq]; rfl, by rw [remM, if_neg hq]; omega, fun t ht k hk => ?_⟩, fun f hf => pk_un hf, by repeat' (first | exact same_rf | refine same_ms ?_ (by decide))⟩
  rw [remM, if_neg hq] at ht
  show wrB (μ 27) (μ 26) q 18 (18 * t + k) = _
  unfold wrB remH
  rw [if_neg hq]
  by_cases e : t = q
  · rw [if_pos (by omega), if_pos e, e, show 18 * q + k - 18 * q = k by omega]; exact hV k hk
  · rw [if_neg (by omega), if_neg e]; exact h3 t (by omega) k hk
theorem rec_hi {μ : Mem} {h : Nat → Nat → Int32} {V : Nat → Int32} (hH : MH μ 6 h) (hV : ∀ k, k < 18 → μ 26 k = V k) : recP μ 6 h V (mset (mset (mset (mset μ 27 (shB (μ 27) 90)) 25 (upd (μ 25) 2 (nI 5))) 27 (wrB (shB (μ 27) 90) (μ 26) 5 18)) 25 (upd (upd (μ 25) 2 (nI 5)) 2 (nI (5 + 1)))) := by
  obtain ⟨h1, h2, h3⟩ := hH
  refine ⟨⟨rfl, by decide, fun t ht k hk => ?_⟩, fun f hf => (pk_un hf).trans (pk_un hf), by repeat' (first | exact same_rf | refine same_ms ?_ (by decide))⟩
  have ht : t < 6 := ht
  show wrB (shB (μ 27) 90) (μ 26) 5 18 (18 * t + k) = remH 6 h V t k
  unfold wrB shB remH
  rw [if_pos rfl]
  by_cases e : t < 5
  · rw [if_neg (by omega), if_pos (by omega), if_pos e, show 18 + (18 * t + k) = 18 * (t + 1) + k by omega]; exact h3 (t + 1) (by omega) k hk
  · rw [if_pos (by omega), if_neg e, show 18 * t + k - 18 * 5 = k by omega]; exact hV k hk
theorem Mo.same {μ μ' : Mem} {n : Nat} {pr : Int32} {th : Nat → Int32} {L : List Nat} (hM : Mo μ n pr th) (h : same μ μ' L) (hL : 26 ∉ L) : Mo μ' n pr th := by
  unfold Mo; rw [h 26 hL]; exact hM
theorem yok_X8_record : yOK yX8_record 0 := by unfold yOK; decide +kernel
theorem hi_X8_record_RX8 : ∀ w ∈ wsX80, w ∈ wsX8_record := by decide +kernel
theorem lk_X8_record_43 : Cond.fieldLink RX8 43 "ThornCoresModel" "known" "I" ∈ wsX8_record := by decide +kernel
theorem lk_X8_record_13 : Cond.fieldLink RX8 13 "ThornCoresModel" "before" "[I" ∈ wsX8_record := by decide +kernel
theorem lk_X8_record_7 : Cond.fieldLink RX8 7 "ThornCoresModel" "s" "[I" ∈ wsX8_record := by decide +kernel
set_option maxRecDepth 20000 in
set_option maxHeartbeats 4000000 in
theorem c_X8_record {l : Launch} {D : va_G} {ad : Nat → Nat} {cI cL : ClassId} (hfl : l.flags = flags0) (hok : adOK ad) (μ : Mem) {n : Nat} {pr : Int32} {th : Nat → Int32} (hM : Mo μ n pr th) (hT : TV n pr th) {q : Nat} {h : Nat → Nat → Int32} (hH : MH μ q h) : CtV l D ad cI cL yX8_record wsX8_record (RM 0 0) [.ref (ad 25)] μ (fun (μ' : Mem) => recP μ q h (stV (nI n) pr th) μ') := by
  refine ct_v (cc := cX8_record) (maxL := 2) (own := RX8) hfl hok (by decide) rfl rfl rfl (Nat.le_of_ble_eq_true rfl) (fun p e s m below meth c C hr => ?_)
  refine go_lv (lv' := [some (.ref (ad 25)), none]) rfl ?_
  obtain ⟨hs0, hs1, hth⟩ := id hM
  have hn := hT.1
  have key2 : ∀ M y, M 25 2 = nI y → y ≤ 5 → recP μ q h (stV (nI n) pr th) (mset (mset M 27 (wrB (M 27) (M 26) y 18)) 25 (upd (M 25) 2 (nI (y + 1)))) → ∀ i, i ≤ 18 → Go p l e (headSpec wsX8_record (RM 0 0)).room s m ([.ref (ad 25)] : List Value).toArray below meth c 0 0 (MQ below (va_Qv (fun (μ' : Mem) => recP μ q h (stV (nI n) pr th) μ') (fun μ' t => PreW D ad cI cL μ' t) (AW ad)) ([.ref (ad 25)] : List Value).toArray s 0 0 (AW ad)) (AW ad) D ad cI cL 2 50 [some (.ref (ad 25)), some (.int (nI i))] [] (mset M 27 (wrB (M 27) (M 26) y i)) := by
    intro M y hy hy5 hP
    refine dn_ind ?_ ?_
    · refine go_iload1 C (pc := 50) dX8_record_50 ?_
      refine go_bipush C (pc := 51) (v := 18) (by decide) dX8_record_51 ?_
      refine go_icmp_ge C (pc := 53) (tgt := 82) dX8_record_53 (by decide) (fun h53 => ?_) (fun h53 => ?_)
      · refine go_aload0 C (pc := 82) dX8_record_82 ?_
        refine go_dup C (pc := 83) rfl dX8_record_83 ?_
        refine go_get C (pc := 84) 25 (by decide) rfl rfl 2 (by decide) rfl rfl hi_X8_record_RX8 lk_X8_record_43 dX8_record_84 ?_
        refine go_top (y := nI (y)) (hy) ?_
        refine go_iconst C (pc := 87) (v := 1) (by decide) dX8_record_87 ?_
        refine go_iadd C (pc := 88) dX8_record_88 ?_
        refine go_top (y := nI (y + 1)) (by rw [show (1 : Int32) = nI 1 from by decide +kernel, nI_add]) ?_
        refine go_put C (pc := 89) 25 (by decide) rfl rfl 2 (by decide) rfl hi_X8_record_RX8 lk_X8_record_43 tyX8_ok nmX8 rfl rfl rfl (Nat.le_of_ble_eq_true rfl) rfl dX8_record_89 ?_
        exact go_vret C hr dX8_record_92 hP
      · exact absurd (by rw [show (18 : Int32) = nI 18 from by decide +kernel]; exact nI_le (Nat.le_refl _) (by decide)) h53
    · intro i hi ih
      refine go_iload1 C (pc := 50) dX8_record_50 ?_
      refine go_bipush C (pc := 51) (v := 18) (by decide) dX8_record_51 ?_
      refine go_icmp_ge C (pc := 53) (tgt := 82) dX8_record_53 (by decide) (fun h53 => ?_) (fun h53 => ?_)
      · exact absurd h53 (by rw [show (18 : Int32) = nI 18 from by decide +kernel]; exact nI_ge hi (by decide))
      · refine go_aload0 C (pc := 56) dX8_record_56 ?_
        refine go_get C (pc := 57) 25 (by decide) rfl rfl 1 (by decide) rfl rfl hi_X8_record_RX8 lk_X8_record_13 dX8_record_57 ?_
        refine go_bipush C (pc := 60) (v := 18) (by decide) dX8_record_60 ?_
        refine go_aload0 C (pc := 62) dX8_record_62 ?_
        refine go_get C (pc := 63) 25 (by decide) rfl rfl 2 (by decide) rfl rfl hi_X8_record_RX8 lk_X8_record_43 dX8_record_63 ?_
        refine go_top (y := nI (y)) (hy) ?_
        refine go_imul C (pc := 66) dX8_record_66 ?_
        refine go_top (y := nI (18 * y)) (by rw [show (18 : Int32) = nI 18 from by decide +kernel, pk_mul]) ?_
        refine go_iload1 C (pc := 67) dX8_record_67 ?_
        refine go_iadd C (pc := 68) dX8_record_68 ?_
        refine go_top (y := nI ((18 * y) + i)) (by rw [nI_add]) ?_
        refine go_aload0 C (pc := 69) dX8_record_69 ?_
        refine go_get C (pc := 70) 25 (by decide) rfl rfl 0 (by decide) rfl rfl hi_X8_record_RX8 lk_X8_record_7 dX8_record_70 ?_
        refine go_iload1 C (pc := 73) dX8_record_73 ?_
        refine go_ialdN C (pc := 74) arr_26 (i := i) (by omega) dX8_record_74 ?_
        refine go_iastN C (pc := 75) arr_27 (i := ((18 * y) + i)) (by omega) dX8_record_75 ?_
        refine go_iinc1 C (pc := 76) (v := 1) dX8_record_76 (by decide) ?_
        refine go_goto C (pc := 79) (tgt := 50) dX8_record_79 (by decide) ?_
        exact go_lv (by rw [nI_1]) (go_mem (show _ = mset M 27 (wrB (M 27) (M 26) y (i + 1)) from by rw [← wrB_s]; exact mset_mset M 27 _ _) ih)
  have key1 : q = 6 → ∀ i, i ≤ 90 → Go p l e (headSpec wsX8_record (RM 0 0)).room s m ([.ref (ad 25)] : List Value).toArray below meth c 0 0 (MQ below (va_Qv (fun (μ' : Mem) => recP μ q h (stV (nI n) pr th) μ') (fun μ' t => PreW D ad cI cL μ' t) (AW ad)) ([.ref (ad 25)] : List Value).toArray s 0 0 (AW ad)) (AW ad) D ad cI cL 2 11 [some (.ref (ad 25)), some (.int (nI i))] [] (mset μ 27 (shB (μ 27) i)) := by
    intro hq6
    subst hq6
    refine dn_ind ?_ ?_
    · refine go_iload1 C (pc := 11) dX8_record_11 ?_
      refine go_bipush C (pc := 12) (v := 90) (by decide) dX8_record_12 ?_
      refine go_icmp_ge C (pc := 14) (tgt := 38) dX8_record_14 (by decide) (fun h14 => ?_) (fun h14 => ?_)
      · refine go_aload0 C (pc := 38) dX8_record_38 ?_
        refine go_dup C (pc := 39) rfl dX8_record_39 ?_
        refine go_get C (pc := 40) 25 (by decide) rfl rfl 2 (by decide) rfl rfl hi_X8_record_RX8 lk_X8_record_43 dX8_record_40 ?_
        refine go_top (y := nI (6)) (hH.1) ?_
        refine go_iconst C (pc := 43) (v := 1) (by decide) dX8_record_43 ?_
        refine go_isub C (pc := 44) dX8_record_44 ?_
        refine go_top (y := nI 5) (by decide +kernel) ?_
        refine go_put C (pc := 45) 25 (by decide) rfl rfl 2 (by decide) rfl hi_X8_record_RX8 lk_X8_record_43 tyX8_ok nmX8 rfl rfl rfl (Nat.le_of_ble_eq_true rfl) rfl dX8_record_45 ?_
        refine go_iconst C (pc := 48) (v := 0) (by decide) dX8_record_48 ?_
        refine go_istore1 C (pc := 49) dX8_record_49 ?_
        exact go_lv (by rw [nI_0]) (go_mem (show _ = mset (mset (mset μ 27 (shB (μ 27) 90)) 25 (upd (μ 25) 2 (nI 5))) 27 (wrB (shB (μ 27) 90) (μ 26) 5 0) from by rw [wrB_0]; exact (mset_id (mset (mset μ 27 (shB (μ 27) 90)) 25 (upd (μ 25) 2 (nI 5))) 27).symm) (key2 (mset (mset μ 27 (shB (μ 27) 90)) 25 (upd (μ 25) 2 (nI 5))) 5 rfl (Nat.le_refl _) (rec_hi hH (fun k hk => mo_V hM hk)) 0 (Nat.zero_le _)))
      · exact absurd (by rw [show (90 : Int32) = nI 90 from by decide +kernel]; exact nI_le (Nat.le_refl _) (by decide)) h14
    · intro i hi ih
      refine go_iload1 C (pc := 11) dX8_record_11 ?_
      refine go_bipush C (pc := 12) (v := 90) (by decide) dX8_record_12 ?_
      refine go_icmp_ge C (pc := 14) (tgt := 38) dX8_record_14 (by decide) (fun h14 => ?_) (fun h14 => ?_)
      · exact absurd h14 (by rw [show (90 : Int32) = nI 90 from by decide +kernel]; exact nI_ge hi (by decide))
      · refine go_aload0 C (pc := 17) dX8_record_17 ?_
        refine go_get C (pc := 18) 25 (by decide) rfl rfl 1 (by decide) rfl rfl hi_X8_record_RX8 lk_X8_record_13 dX8_record_18 ?_
        refine go_iload1 C (pc := 21) dX8_record_21 ?_
        refine go_aload0 C (pc := 22) dX8_record_22 ?_
        refine go_get C (pc := 23) 25 (by decide) rfl rfl 1 (by decide) rfl rfl hi_X8_record_RX8 lk_X8_record_13 dX8_record_23 ?_
        refine go_bipush C (pc := 26) (v := 18) (by decide) dX8_record_26 ?_
        refine go_iload1 C (pc := 28) dX8_record_28 ?_
        refine go_iadd C (pc := 29) dX8_record_29 ?_
        refine go_top (y := nI (18 + i)) (by rw [show (18 : Int32) = nI 18 from by decide +kernel, nI_add]) ?_
        refine go_ialdN C (pc := 30) arr_27 (i := (18 + i)) (by omega) dX8_record_30 ?_
        refine go_iastN C (pc := 31) arr_27 (i := i) (by omega) dX8_record_31 ?_
        refine go_iinc1 C (pc := 32) (v := 1) dX8_record_32 (by decide) ?_
        refine go_goto C (pc := 35) (tgt := 11) dX8_record_35 (by decide) ?_
        exact go_lv (by rw [nI_1]) (go_mem (show _ = mset μ 27 (shB (μ 27) (i + 1)) from by rw [← shB_s]; exact mset_mset μ 27 _ _) ih)
  have h6 := hH.2.1
  refine go_aload0 C (pc := 0) dX8_record_0 ?_
  refine go_get C (pc := 1) 25 (by decide) rfl rfl 2 (by decide) rfl rfl hi_X8_record_RX8 lk_X8_record_43 dX8_record_1 ?_
  refine go_top (y := nI (q)) (hH.1) ?_
  refine go_bipush C (pc := 4) (v := 6) (by decide) dX8_record_4 ?_
  refine go_icmp_ne C (pc := 6) (tgt := 48) dX8_record_6 (by decide) (fun h6b => ?_) (fun h6b => ?_)
  · refine go_iconst C (pc := 48) (v := 0) (by decide) dX8_record_48 ?_
    refine go_istore1 C (pc := 49) dX8_record_49 ?_
    exact go_lv (by rw [nI_0]) (go_mem (by rw [wrB_0]; exact (mset_id μ 27).symm) (key2 μ q hH.1 (by have : q ≠ 6 := fun e => h6b (by rw [e, show (6 : Int32) = nI 6 from by decide +kernel]); omega) (rec_lo hH (fun e => h6b (by rw [e, show (6 : Int32) = nI 6 from by decide +kernel])) (fun k hk => mo_V hM hk)) 0 (Nat.zero_le _)))
  · refine go_iconst C (pc := 9) (v := 0) (by decide) dX8_record_9 ?_
    refine go_istore1 C (pc := 10) dX8_record_10 ?_
    exact go_lv (by rw [nI_0]) (go_mem (by rw [shB_0]; exact (mset_id μ 27).symm) (key1 (by rw [show (6 : Int32) = nI 6 from by decide +kernel] at h6b; exact nI_inj3 (by omega) (by decide) h6b) 0 (Nat.zero_le _)))

theorem yok_X8_plant : yOK yX8_plant 0 := by unfold yOK; decide +kernel
theorem hi_X8_plant_RX8 : ∀ w ∈ wsX80, w ∈ wsX8_plant := by decide +kernel
theorem lk_X8_plant_31 : Cond.fieldLink RX8 31 "ThornCoresModel" "thrown" "I" ∈ wsX8_plant := by decide +kernel
theorem lk_X8_plant_7 : Cond.fieldLink RX8 7 "ThornCoresModel" "s" "[I" ∈ wsX8_plant := by decide +kernel
set_option maxRecDepth 20000 in
set_option maxHeartbeats 4000000 in
theorem c_X8_plant {l : Launch} {D : va_G} {ad : Nat → Nat} {cI cL : ClassId} (hfl : l.flags = flags0) (hok : adOK ad) (μ : Mem) {n : Nat} {pr : Int32} {th : Nat → Int32} (hM : Mo μ n pr th) (hT : TV n pr th) {q : Nat} {h : Nat → Nat → Int32} (hH : MH μ q h) : CtI l D ad cI cL yX8_plant wsX8_plant (RM 1 21) [.ref (ad 25)] μ (fun (r : Int32) (μ' : Mem) => (n = 16 ∧ μ' 25 7 = 1 ∧ kp μ μ' [25]) ∨ (n < 16 ∧ r = nI n ∧ Mo μ' (n + 1) pr th ∧ MH μ' (remM q) (remH q h (stV (nI n) pr th)) ∧ μ' 25 7 = 0 ∧ (μ' 25 4 = μ 25 4 ∧ μ' 25 6 = μ 25 6) ∧ same μ μ' [25, 26, 27])) := by
  refine ct_i (cc := cX8_plant) (maxL := 1) (own := RX8) .int hfl hok (by decide) rfl rfl rfl (Nat.le_of_ble_eq_true rfl) (fun p e s m below meth c C hr => ?_)
  refine go_lv (lv' := [some (.ref (ad 25))]) rfl ?_
  obtain ⟨hs0, hs1, hth⟩ := id hM
  have hn := hT.1
  refine go_aload0 C (pc := 0) dX8_plant_0 ?_
  refine go_iconst C (pc := 1) (v := 0) (by decide) dX8_plant_1 ?_
  refine go_put C (pc := 2) 25 (by decide) rfl rfl 7 (by decide) rfl hi_X8_plant_RX8 lk_X8_plant_31 tyX8_ok nmX8 rfl rfl rfl (Nat.le_of_ble_eq_true rfl) rfl dX8_plant_2 ?_
  refine go_aload0 C (pc := 5) dX8_plant_5 ?_
  refine go_get C (pc := 6) 25 (by decide) rfl rfl 0 (by decide) rfl rfl hi_X8_plant_RX8 lk_X8_plant_7 dX8_plant_6 ?_
  refine go_iconst C (pc := 9) (v := 0) (by decide) dX8_plant_9 ?_
  refine go_top (y := nI 0) (by first | rfl | decide +kernel) ?_
  refine go_ialdN C (pc := 10) arr_26 (i := 0) (by omega) dX8_plant_10 ?_
  refine go_top (y := nI (n)) (hs0) ?_
  refine go_bipush C (pc := 11) (v := 16) (by decide) dX8_plant_11 ?_
  refine go_icmp_ne C (pc := 13) (tgt := 22) dX8_plant_13 (by decide) (fun h13 => ?_) (fun h13 => ?_)
  · refine go_aload0 C (pc := 22) dX8_plant_22 ?_
    refine go_cvV0 C (pc := 23) obj_25 (c_X8_record C.fl C.ok (mset μ 25 (upd (μ 25) 7 0)) hM hT hH) gX8_plant_X8_record rfl rfl yok_X8_record ⟨rfl, rfl⟩ ⟨Nat.le_of_ble_eq_true rfl, Nat.le_of_ble_eq_true rfl⟩ (Nat.le_of_ble_eq_true rfl) ⟨Nat.zero_le _, Nat.zero_le _⟩ dX8_plant_23 (fun μ2 hc2 => ?_)
    obtain ⟨hH1, hf1, hsm1⟩ := hc2
    have e26 : μ2 26 = μ 26 := hsm1 26 (by decide)
    have hf17 : μ2 25 7 = 0 := hf1 7 (by decide)
    refine go_aload0 C (pc := 26) dX8_plant_26 ?_
    refine go_get C (pc := 27) 25 (by decide) rfl rfl 0 (by decide) rfl rfl hi_X8_plant_RX8 lk_X8_plant_7 dX8_plant_27 ?_
    refine go_iconst C (pc := 30) (v := 0) (by decide) dX8_plant_30 ?_
    refine go_dup2 C (pc := 31) rfl rfl dX8_plant_31 ?_
    refine go_top (y := nI 0) (by first | rfl | decide +kernel) ?_
    refine go_ialdN C (pc := 32) arr_26 (i := 0) (by omega) dX8_plant_32 ?_
    refine go_top (y := nI (n)) ((congrFun e26 0).trans hs0) ?_
    refine go_iconst C (pc := 33) (v := 1) (by decide) dX8_plant_33 ?_
    refine go_iadd C (pc := 34) dX8_plant_34 ?_
    refine go_top (y := nI (n + 1)) (by rw [show (1 : Int32) = nI 1 from by decide +kernel, nI_add]) ?_
    refine go_iastC C (pc := 35) arr_26 (i := 0) (by first | rfl | decide +kernel) (by omega) dX8_plant_35 ?_
    refine go_aload0 C (pc := 36) dX8_plant_36 ?_
    refine go_get C (pc := 37) 25 (by decide) rfl rfl 0 (by decide) rfl rfl hi_X8_plant_RX8 lk_X8_plant_7 dX8_plant_37 ?_
    refine go_iconst C (pc := 40) (v := 0) (by decide) dX8_plant_40 ?_
    refine go_top (y := nI 0) (by first | rfl | decide +kernel) ?_
    refine go_ialdN C (pc := 41) arr_26 (i := 0) (by omega) dX8_plant_41 ?_
    refine go_top (y := nI (n + 1)) rfl ?_
    refine go_iconst C (pc := 42) (v := 1) (by decide) dX8_plant_42 ?_
    refine go_isub C (pc := 43) dX8_plant_43 ?_
    refine go_top (y := nI n) (n1_s n) ?_
    exact go_iret C hr dX8_plant_44 (Or.inr ⟨by have : n ≠ 16 := fun e => h13 (by rw [e, nI16]); omega, rfl, ⟨rfl, (congrFun e26 1).trans hs1, fun i hi => (pk_un (by omega)).trans ((congrFun e26 (2 + i)).trans (hth i hi))⟩, hH1, hf17, ⟨hf1 4 (by decide), hf1 6 (by decide)⟩, fun k hk => (mset_ne _ _ (fun e => hk (by rw [e]; decide))).trans ((hsm1 k (fun e => hk (by simp at e ⊢; omega))).trans (mset_ne _ _ (fun e => hk (by rw [e]; decide))))⟩)
  · refine go_aload0 C (pc := 16) dX8_plant_16 ?_
    refine go_iconst C (pc := 17) (v := 1) (by decide) dX8_plant_17 ?_
    refine go_ciV1 C (pc := 18) obj_25 (c_X8_throwing C.fl C.ok _ _ ) gX8_plant_X8_throwing rfl rfl yok_X8_throwing ⟨rfl, rfl⟩ ⟨Nat.le_of_ble_eq_true rfl, Nat.le_of_ble_eq_true rfl⟩ (Nat.le_of_ble_eq_true rfl) ⟨Nat.zero_le _, Nat.zero_le _⟩ dX8_plant_18 (fun r3 μ3 hc3 => ?_)
    obtain ⟨rfl, hm3⟩ := hc3
    replace hm3 := hm3.symm
    subst hm3
    exact go_iret C hr dX8_plant_21 (Or.inl ⟨nI_inj3 (by omega) (by decide) (h13.trans (show (16 : Int32) = nI 16 from nI16)), rfl, ⟨⟨rfl, rfl, rfl⟩, (by repeat' (first | exact same_rf | refine same_ms ?_ (by decide)))⟩⟩)

theorem yok_X8_takeSnapshot : yOK yX8_takeSnapshot 0 := by unfold yOK; decide +kernel
theorem hi_X8_takeSnapshot_RX8 : ∀ w ∈ wsX80, w ∈ wsX8_takeSnapshot := by decide +kernel
theorem lk_X8_takeSnapshot_124 : Cond.fieldLink RX8 124 "ThornCoresModel" "isKept" "Z" ∈ wsX8_takeSnapshot := by decide +kernel
theorem lk_X8_takeSnapshot_7 : Cond.fieldLink RX8 7 "ThornCoresModel" "s" "[I" ∈ wsX8_takeSnapshot := by decide +kernel
theorem lk_X8_takeSnapshot_16 : Cond.fieldLink RX8 16 "ThornCoresModel" "kept" "[I" ∈ wsX8_takeSnapshot := by decide +kernel
theorem lk_X8_takeSnapshot_31 : Cond.fieldLink RX8 31 "ThornCoresModel" "thrown" "I" ∈ wsX8_takeSnapshot := by decide +kernel
set_option maxRecDepth 20000 in
set_option maxHeartbeats 4000000 in
theorem c_X8_takeSnapshot {l : Launch} {D : va_G} {ad : Nat → Nat} {cI cL : ClassId} (hfl : l.flags = flags0) (hok : adOK ad) (μ : Mem) {n : Nat} {pr : Int32} {th : Nat → Int32} (hM : Mo μ n pr th) (hT : TV n pr th) : CtI l D ad cI cL yX8_takeSnapshot wsX8_takeSnapshot (RM 0 0) [.ref (ad 25)] μ (fun (r : Int32) (μ' : Mem) => r = nI n ∧ (∀ k, k < 18 → μ' 28 k = stV (nI n) pr th k) ∧ μ' 25 7 = 0 ∧ μ' 25 4 = 1 ∧ (μ' 25 2 = μ 25 2 ∧ μ' 25 6 = μ 25 6) ∧ same μ μ' [25, 28]) := by
  refine ct_i (cc := cX8_takeSnapshot) (maxL := 2) (own := RX8) .int hfl hok (by decide) rfl rfl rfl (Nat.le_of_ble_eq_true rfl) (fun p e s m below meth c C hr => ?_)
  refine go_lv (lv' := [some (.ref (ad 25)), none]) rfl ?_
  obtain ⟨hs0, hs1, hth⟩ := id hM
  have hn := hT.1
  have key : ∀ i, i ≤ 18 → Go p l e (headSpec wsX8_takeSnapshot (RM 0 0)).room s m ([.ref (ad 25)] : List Value).toArray below meth c 0 0 (MQ below (va_Qi (fun (r : Int32) (μ' : Mem) => r = nI n ∧ (∀ k, k < 18 → μ' 28 k = stV (nI n) pr th k) ∧ μ' 25 7 = 0 ∧ μ' 25 4 = 1 ∧ (μ' 25 2 = μ 25 2 ∧ μ' 25 6 = μ 25 6) ∧ same μ μ' [25, 28]) (fun μ' t => PreW D ad cI cL μ' t) (AW ad)) ([.ref (ad 25)] : List Value).toArray s 0 0 (AW ad)) (AW ad) D ad cI cL 2 7 [some (.ref (ad 25)), some (.int (nI i))] [] (mset (mset μ 25 (upd (μ 25) 7 0)) 28 (cpN (μ 26) (μ 28) i)) := by
    refine dn_ind ?_ ?_
    · refine go_iload1 C (pc := 7) dX8_takeSnapshot_7 ?_
      refine go_bipush C (pc := 8) (v := 18) (by decide) dX8_takeSnapshot_8 ?_
      refine go_icmp_ge C (pc := 10) (tgt := 31) dX8_takeSnapshot_10 (by decide) (fun h10 => ?_) (fun h10 => ?_)
      · refine go_aload0 C (pc := 31) dX8_takeSnapshot_31 ?_
        refine go_iconst C (pc := 32) (v := 1) (by decide) dX8_takeSnapshot_32 ?_
        refine go_put C (pc := 33) 25 (by decide) rfl rfl 4 (by decide) rfl hi_X8_takeSnapshot_RX8 lk_X8_takeSnapshot_124 tyX8_ok nmX8 rfl (nar_z (by decide)) rfl (Nat.le_of_ble_eq_true rfl) rfl dX8_takeSnapshot_33 ?_
        refine go_aload0 C (pc := 36) dX8_takeSnapshot_36 ?_
        refine go_get C (pc := 37) 25 (by decide) rfl rfl 0 (by decide) rfl rfl hi_X8_takeSnapshot_RX8 lk_X8_takeSnapshot_7 dX8_takeSnapshot_37 ?_
        refine go_iconst C (pc := 40) (v := 0) (by decide) dX8_takeSnapshot_40 ?_
        refine go_top (y := nI 0) (by first | rfl | decide +kernel) ?_
        refine go_ialdN C (pc := 41) arr_26 (i := 0) (by omega) dX8_takeSnapshot_41 ?_
        refine go_top (y := nI n) hs0 ?_
        exact go_iret C hr dX8_takeSnapshot_42 (⟨rfl, fun k hk => (cpN_in hk).trans (mo_V hM hk), rfl, rfl, ⟨rfl, rfl⟩, (by repeat' (first | exact same_rf | refine same_ms ?_ (by decide)))⟩)
      · exact absurd (by rw [show (18 : Int32) = nI 18 from by decide +kernel]; exact nI_le (Nat.le_refl _) (by decide)) h10
    · intro i hi ih
      refine go_iload1 C (pc := 7) dX8_takeSnapshot_7 ?_
      refine go_bipush C (pc := 8) (v := 18) (by decide) dX8_takeSnapshot_8 ?_
      refine go_icmp_ge C (pc := 10) (tgt := 31) dX8_takeSnapshot_10 (by decide) (fun h10 => ?_) (fun h10 => ?_)
      · exact absurd h10 (by rw [show (18 : Int32) = nI 18 from by decide +kernel]; exact nI_ge hi (by decide))
      · refine go_aload0 C (pc := 13) dX8_takeSnapshot_13 ?_
        refine go_get C (pc := 14) 25 (by decide) rfl rfl 3 (by decide) rfl rfl hi_X8_takeSnapshot_RX8 lk_X8_takeSnapshot_16 dX8_takeSnapshot_14 ?_
        refine go_iload1 C (pc := 17) dX8_takeSnapshot_17 ?_
        refine go_aload0 C (pc := 18) dX8_takeSnapshot_18 ?_
        refine go_get C (pc := 19) 25 (by decide) rfl rfl 0 (by decide) rfl rfl hi_X8_takeSnapshot_RX8 lk_X8_takeSnapshot_7 dX8_takeSnapshot_19 ?_
        refine go_iload1 C (pc := 22) dX8_takeSnapshot_22 ?_
        refine go_ialdN C (pc := 23) arr_26 (i := i) (by omega) dX8_takeSnapshot_23 ?_
        refine go_iastN C (pc := 24) arr_28 (i := i) (by omega) dX8_takeSnapshot_24 ?_
        refine go_iinc1 C (pc := 25) (v := 1) dX8_takeSnapshot_25 (by decide) ?_
        refine go_goto C (pc := 28) (tgt := 7) dX8_takeSnapshot_28 (by decide) ?_
        exact go_lv (by rw [nI_1]) (go_mem (show _ = mset (mset μ 25 (upd (μ 25) 7 0)) 28 (cpN (μ 26) (μ 28) (i + 1)) from by rw [← cpN_s]; exact mset_mset _ 28 _ _) ih)
  refine go_aload0 C (pc := 0) dX8_takeSnapshot_0 ?_
  refine go_iconst C (pc := 1) (v := 0) (by decide) dX8_takeSnapshot_1 ?_
  refine go_put C (pc := 2) 25 (by decide) rfl rfl 7 (by decide) rfl hi_X8_takeSnapshot_RX8 lk_X8_takeSnapshot_31 tyX8_ok nmX8 rfl rfl rfl (Nat.le_of_ble_eq_true rfl) rfl dX8_takeSnapshot_2 ?_
  refine go_iconst C (pc := 5) (v := 0) (by decide) dX8_takeSnapshot_5 ?_
  refine go_istore1 C (pc := 6) dX8_takeSnapshot_6 ?_
  exact go_lv (by rw [nI_0]) (go_mem (by rw [cpN_0]; exact (mset_id (mset μ 25 (upd (μ 25) 7 0)) 28).symm) (key 0 (Nat.zero_le _)))

theorem yok_X8_clearText : yOK yX8_clearText 0 := by unfold yOK; decide +kernel
theorem hi_X8_clearText_RX8 : ∀ w ∈ wsX80, w ∈ wsX8_clearText := by decide +kernel
theorem lk_X8_clearText_31 : Cond.fieldLink RX8 31 "ThornCoresModel" "thrown" "I" ∈ wsX8_clearText := by decide +kernel
theorem lk_X8_clearText_100 : Cond.fieldLink RX8 100 "ThornCoresModel" "length" "I" ∈ wsX8_clearText := by decide +kernel
set_option maxRecDepth 20000 in
set_option maxHeartbeats 4000000 in
theorem c_X8_clearText {l : Launch} {D : va_G} {ad : Nat → Nat} {cI cL : ClassId} (hfl : l.flags = flags0) (hok : adOK ad) (μ : Mem) : CtI l D ad cI cL yX8_clearText wsX8_clearText (RM 0 0) [.ref (ad 25)] μ (fun (r : Int32) (μ' : Mem) => r = μ 25 6 ∧ μ' 25 7 = 0 ∧ μ' 25 6 = 0 ∧ (μ' 25 2 = μ 25 2 ∧ μ' 25 4 = μ 25 4) ∧ same μ μ' [25]) := by
  refine ct_i (cc := cX8_clearText) (maxL := 2) (own := RX8) .int hfl hok (by decide) rfl rfl rfl (Nat.le_of_ble_eq_true rfl) (fun p e s m below meth c C hr => ?_)
  refine go_lv (lv' := [some (.ref (ad 25)), none]) rfl ?_
  refine go_aload0 C (pc := 0) dX8_clearText_0 ?_
  refine go_iconst C (pc := 1) (v := 0) (by decide) dX8_clearText_1 ?_
  refine go_put C (pc := 2) 25 (by decide) rfl rfl 7 (by decide) rfl hi_X8_clearText_RX8 lk_X8_clearText_31 tyX8_ok nmX8 rfl rfl rfl (Nat.le_of_ble_eq_true rfl) rfl dX8_clearText_2 ?_
  refine go_aload0 C (pc := 5) dX8_clearText_5 ?_
  refine go_get C (pc := 6) 25 (by decide) rfl rfl 6 (by decide) rfl rfl hi_X8_clearText_RX8 lk_X8_clearText_100 dX8_clearText_6 ?_
  refine go_istore1 C (pc := 9) dX8_clearText_9 ?_
  refine go_aload0 C (pc := 10) dX8_clearText_10 ?_
  refine go_iconst C (pc := 11) (v := 0) (by decide) dX8_clearText_11 ?_
  refine go_put C (pc := 12) 25 (by decide) rfl rfl 6 (by decide) rfl hi_X8_clearText_RX8 lk_X8_clearText_100 tyX8_ok nmX8 rfl rfl rfl (Nat.le_of_ble_eq_true rfl) rfl dX8_clearText_12 ?_
  refine go_iload1 C (pc := 15) dX8_clearText_15 ?_
  exact go_iret C hr dX8_clearText_16 (⟨rfl, rfl, rfl, ⟨rfl, rfl⟩, (by repeat' (first | exact same_rf | refine same_ms ?_ (by decide)))⟩)

theorem yok_X8_append : yOK yX8_append 1 := by unfold yOK; decide +kernel
theorem hi_X8_append_RX8 : ∀ w ∈ wsX80, w ∈ wsX8_append := by decide +kernel
theorem lk_X8_append_31 : Cond.fieldLink RX8 31 "ThornCoresModel" "thrown" "I" ∈ wsX8_append := by decide +kernel
theorem lk_X8_append_100 : Cond.fieldLink RX8 100 "ThornCoresModel" "length" "I" ∈ wsX8_append := by decide +kernel
theorem lk_X8_append_19 : Cond.fieldLink RX8 19 "ThornCoresModel" "text" "[I" ∈ wsX8_append := by decide +kernel
set_option maxRecDepth 20000 in
set_option maxHeartbeats 4000000 in
theorem c_X8_append {l : Launch} {D : va_G} {ad : Nat → Nat} {cI cL : ClassId} (hfl : l.flags = flags0) (hok : adOK ad) (μ : Mem) (p0 : Int32) (w : Nat) (hl : μ 25 6 = nI w) (hw : w ≤ 60) : CtI l D ad cI cL yX8_append wsX8_append (RM 1 21) [.ref (ad 25), .int p0] μ (fun (r : Int32) (μ' : Mem) => (w = 60 ∧ μ' 25 7 = 1 ∧ kp μ μ' [25]) ∨ (w < 60 ∧ r = nI (w + 1) ∧ μ' 25 7 = 0 ∧ μ' 25 6 = nI (w + 1) ∧ μ' 29 = upd (μ 29) w p0 ∧ (μ' 25 2 = μ 25 2 ∧ μ' 25 4 = μ 25 4) ∧ same μ μ' [25, 29])) := by
  refine ct_i (cc := cX8_append) (maxL := 2) (own := RX8) .int hfl hok (by decide) rfl rfl rfl (Nat.le_of_ble_eq_true rfl) (fun p e s m below meth c C hr => ?_)
  refine go_lv (lv' := [some (.ref (ad 25)), some (.int p0)]) rfl ?_
  refine go_aload0 C (pc := 0) dX8_append_0 ?_
  refine go_iconst C (pc := 1) (v := 0) (by decide) dX8_append_1 ?_
  refine go_put C (pc := 2) 25 (by decide) rfl rfl 7 (by decide) rfl hi_X8_append_RX8 lk_X8_append_31 tyX8_ok nmX8 rfl rfl rfl (Nat.le_of_ble_eq_true rfl) rfl dX8_append_2 ?_
  refine go_aload0 C (pc := 5) dX8_append_5 ?_
  refine go_get C (pc := 6) 25 (by decide) rfl rfl 6 (by decide) rfl rfl hi_X8_append_RX8 lk_X8_append_100 dX8_append_6 ?_
  refine go_top (y := nI (w)) (hl) ?_
  refine go_bipush C (pc := 9) (v := 60) (by decide) dX8_append_9 ?_
  refine go_icmp_ne C (pc := 11) (tgt := 20) dX8_append_11 (by decide) (fun h11 => ?_) (fun h11 => ?_)
  · have hlt : w < 60 := by have : w ≠ 60 := fun e => h11 (by rw [e, show (60 : Int32) = nI 60 from by decide +kernel]); omega
    refine go_aload0 C (pc := 20) dX8_append_20 ?_
    refine go_get C (pc := 21) 25 (by decide) rfl rfl 5 (by decide) rfl rfl hi_X8_append_RX8 lk_X8_append_19 dX8_append_21 ?_
    refine go_aload0 C (pc := 24) dX8_append_24 ?_
    refine go_get C (pc := 25) 25 (by decide) rfl rfl 6 (by decide) rfl rfl hi_X8_append_RX8 lk_X8_append_100 dX8_append_25 ?_
    refine go_top (y := nI (w)) (hl) ?_
    refine go_iload1 C (pc := 28) dX8_append_28 ?_
    refine go_iastN C (pc := 29) arr_29 (i := w) (by omega) dX8_append_29 ?_
    refine go_aload0 C (pc := 30) dX8_append_30 ?_
    refine go_dup C (pc := 31) rfl dX8_append_31 ?_
    refine go_get C (pc := 32) 25 (by decide) rfl rfl 6 (by decide) rfl rfl hi_X8_append_RX8 lk_X8_append_100 dX8_append_32 ?_
    refine go_top (y := nI (w)) (hl) ?_
    refine go_iconst C (pc := 35) (v := 1) (by decide) dX8_append_35 ?_
    refine go_iadd C (pc := 36) dX8_append_36 ?_
    refine go_top (y := nI (w + 1)) (by rw [show (1 : Int32) = nI 1 from by decide +kernel, nI_add]) ?_
    refine go_put C (pc := 37) 25 (by decide) rfl rfl 6 (by decide) rfl hi_X8_append_RX8 lk_X8_append_100 tyX8_ok nmX8 rfl rfl rfl (Nat.le_of_ble_eq_true rfl) rfl dX8_append_37 ?_
    refine go_aload0 C (pc := 40) dX8_append_40 ?_
    refine go_get C (pc := 41) 25 (by decide) rfl rfl 6 (by decide) rfl rfl hi_X8_append_RX8 lk_X8_append_100 dX8_append_41 ?_
    exact go_iret C hr dX8_append_44 (Or.inr ⟨hlt, rfl, rfl, rfl, rfl, ⟨rfl, rfl⟩, (by repeat' (first | exact same_rf | refine same_ms ?_ (by decide)))⟩)
  · refine go_aload0 C (pc := 14) dX8_append_14 ?_
    refine go_iconst C (pc := 15) (v := 1) (by decide) dX8_append_15 ?_
    refine go_ciV1 C (pc := 16) obj_25 (c_X8_throwing C.fl C.ok _ _ ) gX8_append_X8_throwing rfl rfl yok_X8_throwing ⟨rfl, rfl⟩ ⟨Nat.le_of_ble_eq_true rfl, Nat.le_of_ble_eq_true rfl⟩ (Nat.le_of_ble_eq_true rfl) ⟨Nat.zero_le _, Nat.zero_le _⟩ dX8_append_16 (fun r2 μ2 hc2 => ?_)
    obtain ⟨rfl, hm2⟩ := hc2
    replace hm2 := hm2.symm
    subst hm2
    exact go_iret C hr dX8_append_19 (Or.inl ⟨nI_inj3 (by omega) (by decide) (h11.trans (show (60 : Int32) = nI 60 from by decide +kernel)), rfl, ⟨⟨rfl, rfl, rfl⟩, (by repeat' (first | exact same_rf | refine same_ms ?_ (by decide)))⟩⟩)

