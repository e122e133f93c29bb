/-! ===== ThornCores$Thicket: the methods with loops ===== -/
theorem dn_ind {n : Nat} {G : Nat → Prop} (hx : G n) (hs : ∀ i, i < n → G (i + 1) → G i) : ∀ i, i ≤ n → G i := by
  have key : ∀ d i, i + d = n → G i := by
    intro d
    induction d with
    | zero => intro i h; rw [show i = n by omega]; exact hx
    | succ d ih => intro i h; exact hs i (by omega) (ih (i + 1) (by omega))
  exact fun i h => key (n - i) i (by omega)
def sumI (f : Nat → Int32) : Nat → Int32
  | 0 => 0
  | n + 1 => sumI f n + f n
theorem rowAt_nI {f : Nat → Int32} {n i : Nat} (hn : n < 2 ^ 31) (h : i < n) : rowAt f n (nI i) = f i := by
  rw [rowAt, if_neg, nI_clamp (by omega)]
  rintro (q | q)
  · exact nI_pos (by omega) q
  · exact nI_ge h hn q
theorem rowPut_nI {f : Nat → Int32} {n i : Nat} {x : Int32} (hn : n < 2 ^ 31) (h : i < n) : rowPut f n (nI i) x = upd f i x := by
  rw [rowPut, if_neg, nI_clamp (by omega)]
  rintro (q | q)
  · exact nI_pos (by omega) q
  · exact nI_ge h hn q
theorem rowAt_out {f : Nat → Int32} {n i : Nat} (hi : i < 2 ^ 31) (h : n ≤ i) : rowAt f n (nI i) = 0 := by
  rw [rowAt, if_pos]
  exact Or.inr (nI_le h hi)
theorem mset_skip (μ : Mem) {k j : Nat} (f : Nat → Int32) (h : j ≠ k) : mset (mset μ k f) j (μ j) = mset μ k f := by
  have := mset_id (mset μ k f) j
  rwa [mset_ne _ _ h] at this
theorem nI16 : (16 : Int32) = nI 16 := by decide +kernel
theorem yok_X5_allThorns : yOK yX5_allThorns 0 := by unfold yOK; decide +kernel
theorem hi_X5_allThorns_RX5 : ∀ w ∈ wsX50, w ∈ wsX5_allThorns := by decide +kernel
theorem lk_X5_allThorns_9 : Cond.fieldLink RX5 9 "ThornCores$Thicket" "count" "I" ∈ wsX5_allThorns := by decide +kernel
set_option maxRecDepth 20000 in
set_option maxHeartbeats 4000000 in
/-- the number of thorns: half the sum of what each plant holds -/
theorem c_X5_allThorns {l : Launch} {D : va_G} {ad : Nat → Nat} {cI cL : ClassId} (hfl : l.flags = flags0) (hok : adOK ad) (μ : Mem) (n : Nat) (hn : n ≤ 16) (hc : μ 1 0 = nI n) : CtI l D ad cI cL yX5_allThorns wsX5_allThorns (RM 3 61) [.ref (ad 1)] μ (fun (r : Int32) (μ' : Mem) => r = sumI (fun k => bcI (rowAt (μ 3) 16 (nI k))) n / 2 ∧ μ' = μ) := by
  refine ct_i (cc := cX5_allThorns) (maxL := 3) (own := RX5) .int hfl hok (by decide) rfl rfl rfl (Nat.le_of_ble_eq_true rfl) (fun p e s m below meth c C hr => ?_)
  refine go_lv (lv' := [some (.ref (ad 1)), none, none]) rfl ?_
  have key : ∀ i, i ≤ n → Go p l e (headSpec wsX5_allThorns (RM 3 61)).room s m ([.ref (ad 1)] : List Value).toArray below meth c 0 0 (MQ below (va_Qi (fun (r : Int32) (μ' : Mem) => r = sumI (fun k => bcI (rowAt (μ 3) 16 (nI k))) n / 2 ∧ μ' = μ) (fun μ' t => PreW D ad cI cL μ' t) (AW ad)) ([.ref (ad 1)] : List Value).toArray s 0 0 (AW ad)) (AW ad) D ad cI cL 3 4 [some (.ref (ad 1)), some (.int (sumI (fun k => bcI (rowAt (μ 3) 16 (nI k))) i)), some (.int (nI i))] [] (μ) := by
    refine dn_ind ?_ ?_
    · refine go_iload2 C (pc := 4) dX5_allThorns_4 ?_
      refine go_aload0 C (pc := 5) dX5_allThorns_5 ?_
      refine go_get C (pc := 6) 1 (by decide) rfl rfl 0 (by decide) rfl rfl hi_X5_allThorns_RX5 lk_X5_allThorns_9 dX5_allThorns_6 ?_
      refine go_icmp_ge C (pc := 9) (tgt := 26) dX5_allThorns_9 (by decide) (fun h9 => ?_) (fun h9 => ?_)
      · refine go_iload1 C (pc := 26) dX5_allThorns_26 ?_
        refine go_iconst C (pc := 27) (v := 2) (by decide) dX5_allThorns_27 ?_
        refine go_idiv C (pc := 28) (by decide) dX5_allThorns_28 ?_
        exact go_iret C hr dX5_allThorns_29 (⟨rfl, rfl⟩)
      · exact absurd (by rw [hc]; exact nI_le (Nat.le_refl _) (by omega)) h9
    · intro i hi ih
      refine go_iload2 C (pc := 4) dX5_allThorns_4 ?_
      refine go_aload0 C (pc := 5) dX5_allThorns_5 ?_
      refine go_get C (pc := 6) 1 (by decide) rfl rfl 0 (by decide) rfl rfl hi_X5_allThorns_RX5 lk_X5_allThorns_9 dX5_allThorns_6 ?_
      refine go_icmp_ge C (pc := 9) (tgt := 26) dX5_allThorns_9 (by decide) (fun h9 => ?_) (fun h9 => ?_)
      · exact absurd (by rw [← hc]; exact h9) (nI_ge hi (by omega))
      · refine go_iload1 C (pc := 12) dX5_allThorns_12 ?_
        refine go_aload0 C (pc := 13) dX5_allThorns_13 ?_
        refine go_iload2 C (pc := 14) dX5_allThorns_14 ?_
        refine go_ciV1 C (pc := 15) obj_1 (c_X5_held C.fl C.ok _ _ ) gX5_allThorns_X5_held rfl rfl yok_X5_held ⟨rfl, rfl⟩ ⟨Nat.le_of_ble_eq_true rfl, Nat.le_of_ble_eq_true rfl⟩ (Nat.le_of_ble_eq_true rfl) ⟨Nat.zero_le _, Nat.zero_le _⟩ dX5_allThorns_15 (fun r3 μ3 hc3 => ?_)
        obtain ⟨rfl, hm3⟩ := hc3
        replace hm3 := hm3.symm
        subst hm3
        refine go_iadd C (pc := 18) dX5_allThorns_18 ?_
        refine go_istore1 C (pc := 19) dX5_allThorns_19 ?_
        refine go_iinc2 C (pc := 20) (v := 1) dX5_allThorns_20 (by decide) ?_
        refine go_goto C (pc := 23) (tgt := 4) dX5_allThorns_23 (by decide) ?_
        exact go_lv (by simp only [nI_1, sumI]) ih
  refine go_iconst C (pc := 0) (v := 0) (by decide) dX5_allThorns_0 ?_
  refine go_istore1 C (pc := 1) dX5_allThorns_1 ?_
  refine go_iconst C (pc := 2) (v := 0) (by decide) dX5_allThorns_2 ?_
  refine go_istore2 C (pc := 3) dX5_allThorns_3 ?_
  exact go_lv (by rw [nI_0]; rfl) (key 0 (Nat.zero_le _))

/-- the state (count, props, rows) laid into g from the place z on, the first i rows of it -/
def wrS (g : Nat → Int32) (z : Nat) (c pr : Int32) (th : Nat → Int32) (i : Nat) : Nat → Int32 := fun k => if k = z then c else if k = z + 1 then pr else if z + 2 ≤ k ∧ k < z + 2 + i then th (k - (z + 2)) else g k
theorem wrS_0 (g : Nat → Int32) (z : Nat) (c pr : Int32) (th : Nat → Int32) : upd (upd g z c) (z + 1) pr = wrS g z c pr th 0 := by
  funext k
  simp only [upd, wrS]
  by_cases h1 : k = z + 1
  · simp [h1]
  · by_cases h2 : k = z
    · simp [h2]
    · rw [if_neg h1, if_neg h2, if_neg h2, if_neg h1, if_neg (by omega)]
theorem wrS_s (g : Nat → Int32) (z : Nat) (c pr : Int32) (th : Nat → Int32) (i : Nat) : upd (wrS g z c pr th i) (z + 2 + i) (th i) = wrS g z c pr th (i + 1) := by
  funext k
  simp only [upd, wrS]
  by_cases h : k = z + 2 + i
  · subst h
    rw [if_pos rfl, if_neg (by omega), if_neg (by omega), if_pos (by omega), show z + 2 + i - (z + 2) = i by omega]
  · rw [if_neg h]
    by_cases h1 : k = z
    · simp [h1]
    · by_cases h2 : k = z + 1
      · simp [h2]
      · rw [if_neg h1, if_neg h1, if_neg h2, if_neg h2]
        by_cases h3 : z + 2 ≤ k ∧ k < z + 2 + i
        · rw [if_pos h3, if_pos (by omega)]
        · rw [if_neg h3, if_neg (by omega)]
theorem nI_2 (z : Nat) : nI z + 2 = nI (z + 2) := by rw [show (2 : Int32) = nI 2 from by decide +kernel, nI_add]
/-- rows th, the first i of them read from g at z + 2 -/
def rdS (th g : Nat → Int32) (z i : Nat) : Nat → Int32 := fun k => if k < i then g (z + 2 + k) else th k
theorem rdS_0 (th g : Nat → Int32) (z : Nat) : rdS th g z 0 = th := by funext k; simp [rdS]
theorem rdS_s (th g : Nat → Int32) (z i : Nat) : upd (rdS th g z i) i (g (z + 2 + i)) = rdS th g z (i + 1) := by
  funext k
  simp only [upd, rdS]
  by_cases h : k = i
  · subst h; simp
  · rw [if_neg h]
    by_cases h2 : k < i
    · rw [if_pos h2, if_pos (by omega)]
    · rw [if_neg h2, if_neg (by omega)]
theorem hi_X5_writeTo_RX5 : ∀ w ∈ wsX50, w ∈ wsX5_writeTo := by decide +kernel
theorem lk_X5_writeTo_23 : Cond.fieldLink RX5 23 "ThornCores$Thicket" "thorns" "LThornCores$Row;" ∈ wsX5_writeTo := by decide +kernel
theorem lk_X5_writeTo_9 : Cond.fieldLink RX5 9 "ThornCores$Thicket" "count" "I" ∈ wsX5_writeTo := by decide +kernel
theorem lk_X5_writeTo_15 : Cond.fieldLink RX5 15 "ThornCores$Thicket" "props" "I" ∈ wsX5_writeTo := by decide +kernel
set_option maxRecDepth 20000 in
set_option maxHeartbeats 4000000 in
theorem c_X5_writeTo_8 {l : Launch} {D : va_G} {ad : Nat → Nat} {cI cL : ClassId} (hfl : l.flags = flags0) (hok : adOK ad) (μ : Mem) (z : Nat) (hz : z + 18 ≤ 108) : CtV l D ad cI cL yX5_writeTo wsX5_writeTo (RM 1 22) [.ref (ad 1), .ref (ad 8), .int (nI z)] μ (fun (μ' : Mem) => μ' = mset μ 9 (wrS (μ 9) z (μ 1 0) (μ 1 1) (μ 3) 16)) := by
  refine ct_v (cc := cX5_writeTo) (maxL := 4) (own := RX5) hfl hok (by decide) rfl rfl rfl (Nat.le_of_ble_eq_true rfl) (fun p e s m below meth c C hr => ?_)
  refine go_lv (lv' := [some (.ref (ad 1)), some (.ref (ad 8)), some (.int (nI z)), none]) rfl ?_
  have key : ∀ i, i ≤ 16 → Go p l e (headSpec wsX5_writeTo (RM 1 22)).room s m ([.ref (ad 1), .ref (ad 8), .int (nI z)] : List Value).toArray below meth c 0 0 (MQ below (va_Qv (fun (μ' : Mem) => μ' = mset μ 9 (wrS (μ 9) z (μ 1 0) (μ 1 1) (μ 3) 16)) (fun μ' t => PreW D ad cI cL μ' t) (AW ad)) ([.ref (ad 1), .ref (ad 8), .int (nI z)] : List Value).toArray s 0 0 (AW ad)) (AW ad) D ad cI cL 4 22 [some (.ref (ad 1)), some (.ref (ad 8)), some (.int (nI z)), some (.int (nI i))] [] (mset μ 9 (wrS (μ 9) z (μ 1 0) (μ 1 1) (μ 3) i)) := by
    refine dn_ind ?_ ?_
    · refine go_iload3 C (pc := 22) dX5_writeTo_22 ?_
      refine go_bipush C (pc := 23) (v := 16) (by decide) dX5_writeTo_23 ?_
      refine go_icmp_ge C (pc := 25) (tgt := 51) dX5_writeTo_25 (by decide) (fun h25 => ?_) (fun h25 => ?_)
      · exact go_vret C hr dX5_writeTo_51 (rfl)
      · exact absurd (by rw [nI16]; exact nI_le (Nat.le_refl _) (by omega)) h25
    · intro i hi ih
      refine go_iload3 C (pc := 22) dX5_writeTo_22 ?_
      refine go_bipush C (pc := 23) (v := 16) (by decide) dX5_writeTo_23 ?_
      refine go_icmp_ge C (pc := 25) (tgt := 51) dX5_writeTo_25 (by decide) (fun h25 => ?_) (fun h25 => ?_)
      · exact absurd (by rw [← nI16]; exact h25) (nI_ge hi (by omega))
      · refine go_aload1 C (pc := 28) dX5_writeTo_28 ?_
        refine go_iload2 C (pc := 29) dX5_writeTo_29 ?_
        refine go_iconst C (pc := 30) (v := 2) (by decide) dX5_writeTo_30 ?_
        refine go_iadd C (pc := 31) dX5_writeTo_31 ?_
        refine go_iload3 C (pc := 32) dX5_writeTo_32 ?_
        refine go_iadd C (pc := 33) dX5_writeTo_33 ?_
        refine go_aload0 C (pc := 34) dX5_writeTo_34 ?_
        refine go_get C (pc := 35) 1 (by decide) rfl rfl 2 (by decide) rfl rfl hi_X5_writeTo_RX5 lk_X5_writeTo_23 dX5_writeTo_35 ?_
        refine go_iload3 C (pc := 38) dX5_writeTo_38 ?_
        refine go_ciV1 C (pc := 39) obj_2 (c_X3_at C.fl C.ok _ 2 16 row_2 _  ) gX5_writeTo_X3_at rfl rfl yok_X3_at ⟨rfl, rfl⟩ ⟨Nat.le_of_ble_eq_true rfl, Nat.le_of_ble_eq_true rfl⟩ (Nat.le_of_ble_eq_true rfl) ⟨Nat.zero_le _, Nat.zero_le _⟩ dX5_writeTo_39 (fun r3 μ3 hc3 => ?_)
        obtain ⟨rfl, hm3⟩ := hc3
        replace hm3 := hm3.symm
        subst hm3
        refine go_cvV2 C (pc := 42) obj_8 (c_X3_put C.fl C.ok _ 8 108 row_8 _ _  ) gX5_writeTo_X3_put rfl rfl yok_X3_put ⟨rfl, rfl⟩ ⟨Nat.le_of_ble_eq_true rfl, Nat.le_of_ble_eq_true rfl⟩ (Nat.le_of_ble_eq_true rfl) ⟨Nat.zero_le _, Nat.zero_le _⟩ dX5_writeTo_42 (fun μ4 hc4 => ?_)
        replace hc4 := hc4.symm
        subst hc4
        refine go_iinc3 C (pc := 45) (v := 1) dX5_writeTo_45 (by decide) ?_
        refine go_goto C (pc := 48) (tgt := 22) dX5_writeTo_48 (by decide) ?_
        exact go_lv (by simp only [nI_1]) (go_mem (by rw [mset_mset, mset_same, nI_2, nI_add, rowPut_nI (by decide) (by omega), mset_ne _ _ (by decide), rowAt_nI (by decide) hi, wrS_s]) ih)
  refine go_aload1 C (pc := 0) dX5_writeTo_0 ?_
  refine go_iload2 C (pc := 1) dX5_writeTo_1 ?_
  refine go_aload0 C (pc := 2) dX5_writeTo_2 ?_
  refine go_get C (pc := 3) 1 (by decide) rfl rfl 0 (by decide) rfl rfl hi_X5_writeTo_RX5 lk_X5_writeTo_9 dX5_writeTo_3 ?_
  refine go_cvV2 C (pc := 6) obj_8 (c_X3_put C.fl C.ok _ 8 108 row_8 _ _  ) gX5_writeTo_X3_put rfl rfl yok_X3_put ⟨rfl, rfl⟩ ⟨Nat.le_of_ble_eq_true rfl, Nat.le_of_ble_eq_true rfl⟩ (Nat.le_of_ble_eq_true rfl) ⟨Nat.zero_le _, Nat.zero_le _⟩ dX5_writeTo_6 (fun μ5 hc5 => ?_)
  replace hc5 := hc5.symm
  subst hc5
  refine go_aload1 C (pc := 9) dX5_writeTo_9 ?_
  refine go_iload2 C (pc := 10) dX5_writeTo_10 ?_
  refine go_iconst C (pc := 11) (v := 1) (by decide) dX5_writeTo_11 ?_
  refine go_iadd C (pc := 12) dX5_writeTo_12 ?_
  refine go_aload0 C (pc := 13) dX5_writeTo_13 ?_
  refine go_get C (pc := 14) 1 (by decide) rfl rfl 1 (by decide) rfl rfl hi_X5_writeTo_RX5 lk_X5_writeTo_15 dX5_writeTo_14 ?_
  refine go_cvV2 C (pc := 17) obj_8 (c_X3_put C.fl C.ok _ 8 108 row_8 _ _  ) gX5_writeTo_X3_put rfl rfl yok_X3_put ⟨rfl, rfl⟩ ⟨Nat.le_of_ble_eq_true rfl, Nat.le_of_ble_eq_true rfl⟩ (Nat.le_of_ble_eq_true rfl) ⟨Nat.zero_le _, Nat.zero_le _⟩ dX5_writeTo_17 (fun μ6 hc6 => ?_)
  replace hc6 := hc6.symm
  subst hc6
  refine go_iconst C (pc := 20) (v := 0) (by decide) dX5_writeTo_20 ?_
  refine go_istore3 C (pc := 21) dX5_writeTo_21 ?_
  exact go_lv (by rw [nI_0]) (go_mem (by rw [mset_mset, mset_same, mset_ne _ _ (show (1 : Nat) ≠ 9 by decide), nI_1, rowPut_nI (by decide) (by omega), rowPut_nI (by decide) (by omega), wrS_0]) (key 0 (Nat.zero_le _)))

set_option maxRecDepth 20000 in
set_option maxHeartbeats 4000000 in
theorem c_X5_writeTo_10 {l : Launch} {D : va_G} {ad : Nat → Nat} {cI cL : ClassId} (hfl : l.flags = flags0) (hok : adOK ad) (μ : Mem) (z : Nat) (hz : z + 18 ≤ 18) : CtV l D ad cI cL yX5_writeTo wsX5_writeTo (RM 1 22) [.ref (ad 1), .ref (ad 10), .int (nI z)] μ (fun (μ' : Mem) => μ' = mset μ 11 (wrS (μ 11) z (μ 1 0) (μ 1 1) (μ 3) 16)) := by
  refine ct_v (cc := cX5_writeTo) (maxL := 4) (own := RX5) hfl hok (by decide) rfl rfl rfl (Nat.le_of_ble_eq_true rfl) (fun p e s m below meth c C hr => ?_)
  refine go_lv (lv' := [some (.ref (ad 1)), some (.ref (ad 10)), some (.int (nI z)), none]) rfl ?_
  have key : ∀ i, i ≤ 16 → Go p l e (headSpec wsX5_writeTo (RM 1 22)).room s m ([.ref (ad 1), .ref (ad 10), .int (nI z)] : List Value).toArray below meth c 0 0 (MQ below (va_Qv (fun (μ' : Mem) => μ' = mset μ 11 (wrS (μ 11) z (μ 1 0) (μ 1 1) (μ 3) 16)) (fun μ' t => PreW D ad cI cL μ' t) (AW ad)) ([.ref (ad 1), .ref (ad 10), .int (nI z)] : List Value).toArray s 0 0 (AW ad)) (AW ad) D ad cI cL 4 22 [some (.ref (ad 1)), some (.ref (ad 10)), some (.int (nI z)), some (.int (nI i))] [] (mset μ 11 (wrS (μ 11) z (μ 1 0) (μ 1 1) (μ 3) i)) := by
    refine dn_ind ?_ ?_
    · refine go_iload3 C (pc := 22) dX5_writeTo_22 ?_
      refine go_bipush C (pc := 23) (v := 16) (by decide) dX5_writeTo_23 ?_
      refine go_icmp_ge C (pc := 25) (tgt := 51) dX5_writeTo_25 (by decide) (fun h25 => ?_) (fun h25 => ?_)
      · exact go_vret C hr dX5_writeTo_51 (rfl)
      · exact absurd (by rw [nI16]; exact nI_le (Nat.le_refl _) (by omega)) h25
    · intro i hi ih
      refine go_iload3 C (pc := 22) dX5_writeTo_22 ?_
      refine go_bipush C (pc := 23) (v := 16) (by decide) dX5_writeTo_23 ?_
      refine go_icmp_ge C (pc := 25) (tgt := 51) dX5_writeTo_25 (by decide) (fun h25 => ?_) (fun h25 => ?_)
      · exact absurd (by rw [← nI16]; exact h25) (nI_ge hi (by omega))
      · refine go_aload1 C (pc := 28) dX5_writeTo_28 ?_
        refine go_iload2 C (pc := 29) dX5_writeTo_29 ?_
        refine go_iconst C (pc := 30) (v := 2) (by decide) dX5_writeTo_30 ?_
        refine go_iadd C (pc := 31) dX5_writeTo_31 ?_
        refine go_iload3 C (pc := 32) dX5_writeTo_32 ?_
        refine go_iadd C (pc := 33) dX5_writeTo_33 ?_
        refine go_aload0 C (pc := 34) dX5_writeTo_34 ?_
        refine go_get C (pc := 35) 1 (by decide) rfl rfl 2 (by decide) rfl rfl hi_X5_writeTo_RX5 lk_X5_writeTo_23 dX5_writeTo_35 ?_
        refine go_iload3 C (pc := 38) dX5_writeTo_38 ?_
        refine go_ciV1 C (pc := 39) obj_2 (c_X3_at C.fl C.ok _ 2 16 row_2 _  ) gX5_writeTo_X3_at rfl rfl yok_X3_at ⟨rfl, rfl⟩ ⟨Nat.le_of_ble_eq_true rfl, Nat.le_of_ble_eq_true rfl⟩ (Nat.le_of_ble_eq_true rfl) ⟨Nat.zero_le _, Nat.zero_le _⟩ dX5_writeTo_39 (fun r3 μ3 hc3 => ?_)
        obtain ⟨rfl, hm3⟩ := hc3
        replace hm3 := hm3.symm
        subst hm3
        refine go_cvV2 C (pc := 42) obj_10 (c_X3_put C.fl C.ok _ 10 18 row_10 _ _  ) gX5_writeTo_X3_put rfl rfl yok_X3_put ⟨rfl, rfl⟩ ⟨Nat.le_of_ble_eq_true rfl, Nat.le_of_ble_eq_true rfl⟩ (Nat.le_of_ble_eq_true rfl) ⟨Nat.zero_le _, Nat.zero_le _⟩ dX5_writeTo_42 (fun μ4 hc4 => ?_)
        replace hc4 := hc4.symm
        subst hc4
        refine go_iinc3 C (pc := 45) (v := 1) dX5_writeTo_45 (by decide) ?_
        refine go_goto C (pc := 48) (tgt := 22) dX5_writeTo_48 (by decide) ?_
        exact go_lv (by simp only [nI_1]) (go_mem (by rw [mset_mset, mset_same, nI_2, nI_add, rowPut_nI (by decide) (by omega), mset_ne _ _ (by decide), rowAt_nI (by decide) hi, wrS_s]) ih)
  refine go_aload1 C (pc := 0) dX5_writeTo_0 ?_
  refine go_iload2 C (pc := 1) dX5_writeTo_1 ?_
  refine go_aload0 C (pc := 2) dX5_writeTo_2 ?_
  refine go_get C (pc := 3) 1 (by decide) rfl rfl 0 (by decide) rfl rfl hi_X5_writeTo_RX5 lk_X5_writeTo_9 dX5_writeTo_3 ?_
  refine go_cvV2 C (pc := 6) obj_10 (c_X3_put C.fl C.ok _ 10 18 row_10 _ _  ) gX5_writeTo_X3_put rfl rfl yok_X3_put ⟨rfl, rfl⟩ ⟨Nat.le_of_ble_eq_true rfl, Nat.le_of_ble_eq_true rfl⟩ (Nat.le_of_ble_eq_true rfl) ⟨Nat.zero_le _, Nat.zero_le _⟩ dX5_writeTo_6 (fun μ5 hc5 => ?_)
  replace hc5 := hc5.symm
  subst hc5
  refine go_aload1 C (pc := 9) dX5_writeTo_9 ?_
  refine go_iload2 C (pc := 10) dX5_writeTo_10 ?_
  refine go_iconst C (pc := 11) (v := 1) (by decide) dX5_writeTo_11 ?_
  refine go_iadd C (pc := 12) dX5_writeTo_12 ?_
  refine go_aload0 C (pc := 13) dX5_writeTo_13 ?_
  refine go_get C (pc := 14) 1 (by decide) rfl rfl 1 (by decide) rfl rfl hi_X5_writeTo_RX5 lk_X5_writeTo_15 dX5_writeTo_14 ?_
  refine go_cvV2 C (pc := 17) obj_10 (c_X3_put C.fl C.ok _ 10 18 row_10 _ _  ) gX5_writeTo_X3_put rfl rfl yok_X3_put ⟨rfl, rfl⟩ ⟨Nat.le_of_ble_eq_true rfl, Nat.le_of_ble_eq_true rfl⟩ (Nat.le_of_ble_eq_true rfl) ⟨Nat.zero_le _, Nat.zero_le _⟩ dX5_writeTo_17 (fun μ6 hc6 => ?_)
  replace hc6 := hc6.symm
  subst hc6
  refine go_iconst C (pc := 20) (v := 0) (by decide) dX5_writeTo_20 ?_
  refine go_istore3 C (pc := 21) dX5_writeTo_21 ?_
  exact go_lv (by rw [nI_0]) (go_mem (by rw [mset_mset, mset_same, mset_ne _ _ (show (1 : Nat) ≠ 11 by decide), nI_1, rowPut_nI (by decide) (by omega), rowPut_nI (by decide) (by omega), wrS_0]) (key 0 (Nat.zero_le _)))
