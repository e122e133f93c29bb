/-! ===== ThornCoresModel: the small methods ===== -/
section GON
variable {p : Program} {l : Launch} {e : Env} {R : Room} {s : State} {m : MethodId} {args : Array Value} {below : List Frame} {meth : Method} {c : Code} {cells slots : Nat} {Q : State → Prop} {A : Nat → Prop} {D : va_G} {ad : Nat → Nat} {cI cL : ClassId} {nL : Nat} {cc : ByteArray} {own : String} {Ts : List Cond} {pc : Nat} {st : List Value} {μ : Mem} {lv : List (Option Value)}
theorem go_ialdN (C : Cx p l s m args meth c cc nL Ts own A D ad cI cL) {k N : Nat} (hk : isArr k N) {i : Nat} (hi : i < N) (hdg : decode cc pc = .ok (.iaload, 1)) (kk : Go p l e R s m args below meth c cells slots Q A D ad cI cL nL (pc + 1) (lv) (.int (μ k i) :: st) (μ)) (hN : N < 2 ^ 31 := by decide) : Go p l e R s m args below meth c cells slots Q A D ad cI cL nL (pc) (lv) (.int (nI i) :: .ref (ad k) :: st) (μ) :=
  go_iald C hk (pk_in i N hi rfl hN) hdg (go_top (show μ k (nI i).toNatClampNeg = μ k i by rw [nI_clamp (by omega)]) kk)
theorem go_iastN (C : Cx p l s m args meth c cc nL Ts own A D ad cI cL) {k N : Nat} (hk : isArr k N) {i : Nat} {x : Int32} (hi : i < N) (hdg : decode cc pc = .ok (.iastore, 1)) (kk : Go p l e R s m args below meth c cells slots Q A D ad cI cL nL (pc + 1) (lv) (st) (mset μ k (upd (μ k) i x))) (hN : N < 2 ^ 31 := by decide) : Go p l e R s m args below meth c cells slots Q A D ad cI cL nL (pc) (lv) (.int x :: .int (nI i) :: .ref (ad k) :: st) (μ) :=
  go_iast C hk (pk_in i N hi rfl hN) hdg (go_mem (show mset μ k (upd (μ k) (nI i).toNatClampNeg x) = mset μ k (upd (μ k) i x) by rw [nI_clamp (by omega)]) kk)
theorem go_iastC (C : Cx p l s m args meth c cc nL Ts own A D ad cI cL) {k N : Nat} (hk : isArr k N) {i : Nat} {x y : Int32} (hy : y = nI i) (hi : i < N) (hdg : decode cc pc = .ok (.iastore, 1)) (kk : Go p l e R s m args below meth c cells slots Q A D ad cI cL nL (pc + 1) (lv) (st) (mset μ k (upd (μ k) i x))) (hN : N < 2 ^ 31 := by decide) : Go p l e R s m args below meth c cells slots Q A D ad cI cL nL (pc) (lv) (.int x :: .int y :: .ref (ad k) :: st) (μ) := by
  subst hy
  exact go_iastN C hk hi hdg kk hN
end GON
/-- the model's thicket -/
def Mo (μ : Mem) (n : Nat) (pr : Int32) (th : Nat → Int32) : Prop := μ 26 0 = nI n ∧ μ 26 1 = pr ∧ ∀ i, i < 16 → μ 26 (2 + i) = th i
def inR (v a b : Int32) : Bool := !decide (v < a) && !decide (b < v)
theorem inR_plant {n : Nat} (hn : n ≤ 16) (p0 : Int32) : inR p0 0 (nI n - 1) = hasB (nI n) p0 := by
  unfold inR hasB
  by_cases h : p0 < 0
  · rw [decide_eq_true h]; rfl
  · rw [decide_eq_false h]
    rw [Bool.not_false, Bool.true_and, Bool.true_and]
    have e1 : (nI n - nI 1).toInt = (n : Int) - 1 := pk_sub_toInt (by omega) (by omega)
    have e2 : (nI n).toInt = (n : Int) := nI_toInt (by omega)
    rw [show (1 : Int32) = nI 1 from by decide +kernel]
    by_cases q : p0 < nI n
    · rw [decide_eq_true q, decide_eq_false (fun z => by rw [Int32.lt_iff_toInt_lt] at q z; omega)]; rfl
    · rw [decide_eq_false q, decide_eq_true (by rw [Int32.lt_iff_toInt_lt] at q ⊢; omega)]; rfl
theorem sar1 {x : Int32} {j : Nat} (hj : j < 32) : ((x >>> (nI j &&& 31)) &&& 1) = b2i (bt x j) := by
  have h1 : ∀ i, i < 32 → bt 1 i = decide (i = 0) := by decide +kernel
  have h2 : ∀ b : Bool, ∀ i, i < 32 → bt (b2i b) i = (decide (i = 0) && b) := by decide +kernel
  refine b_ext (fun i hi => ?_)
  rw [b_and, h1 i hi, h2 _ i hi]
  by_cases h : i = 0
  · rw [h, decide_eq_true rfl, Bool.and_true, Bool.true_and, b_sshr j hj x (by decide), if_pos (by omega)]; rfl
  · rw [decide_eq_false h, Bool.and_false, Bool.false_and]
theorem b2i_1 {b : Bool} : b2i b = 1 ↔ b = true := by cases b <;> decide
theorem ct_succ_nI (x : Int32) (i : Nat) : nI (fb_ct (bt x) i) + b2i (bt x i) = nI (fb_ct (bt x) (i + 1)) := by
  rw [fb_ct_succ]
  cases bt x i
  · rw [if_neg (by decide)]; exact Int32.add_zero _
  · rw [if_pos rfl]; exact nI_1 _
def cd2 (c p0 p1 : Int32) : Int32 := if hasB c p0 = true then (if hasB c p1 = true then (if p0 = p1 then 2 else 0) else 1) else 1
def cdT (c : Int32) (th : Nat → Int32) (p0 p1 : Int32) : Int32 := if hasB c p0 = true then (if hasB c p1 = true then (if bndB c th p0 p1 = true then 0 else 2) else 1) else 1
def cd1 (c p0 : Int32) : Int32 := if hasB c p0 = true then 0 else 1
def cdK (k : Int32) : Int32 := if inR k 0 15 = true then 0 else 1
theorem yok_X8_in : yOK yX8_in 3 := by unfold yOK; decide +kernel
set_option maxRecDepth 20000 in
set_option maxHeartbeats 4000000 in
theorem c_X8_in {l : Launch} {D : va_G} {ad : Nat → Nat} {cI cL : ClassId} (hfl : l.flags = flags0) (hok : adOK ad) (μ : Mem) (v a b : Int32) : CtI l D ad cI cL yX8_in wsX8_in (RM 0 0) [.int v, .int a, .int b] μ (fun (r : Int32) (μ' : Mem) => r = b2i (inR v a b) ∧ μ' = μ) := by
  refine ct_i (cc := cX8_in) (maxL := 3) (own := RX8) .boolean hfl hok (by decide) rfl rfl rfl (Nat.le_of_ble_eq_true rfl) (fun p e s m below meth c C hr => ?_)
  refine go_lv (lv' := [some (.int v), some (.int a), some (.int b)]) rfl ?_
  refine go_iload0 C (pc := 0) dX8_in_0 ?_
  refine go_iload1 C (pc := 1) dX8_in_1 ?_
  refine go_icmp_lt C (pc := 2) (tgt := 14) dX8_in_2 (by decide) (fun h2 => ?_) (fun h2 => ?_)
  · refine go_iconst C (pc := 14) (v := 0) (by decide) dX8_in_14 ?_
    exact go_zret C hr dX8_in_15 (by decide) ⟨by unfold inR; rw [decide_eq_true h2]; rfl, rfl⟩
  · refine go_iload0 C (pc := 5) dX8_in_5 ?_
    refine go_iload2 C (pc := 6) dX8_in_6 ?_
    refine go_icmp_gt C (pc := 7) (tgt := 14) dX8_in_7 (by decide) (fun h7 => ?_) (fun h7 => ?_)
    · refine go_iconst C (pc := 14) (v := 0) (by decide) dX8_in_14 ?_
      exact go_zret C hr dX8_in_15 (by decide) ⟨by unfold inR; rw [decide_eq_false h2, decide_eq_true h7]; rfl, rfl⟩
    · refine go_iconst C (pc := 10) (v := 1) (by decide) dX8_in_10 ?_
      refine go_goto C (pc := 11) (tgt := 15) dX8_in_11 (by decide) ?_
      exact go_zret C hr dX8_in_15 (by decide) ⟨by unfold inR; rw [decide_eq_false h2, decide_eq_false h7]; rfl, rfl⟩

theorem yok_X8_has : yOK yX8_has 2 := by unfold yOK; decide +kernel
set_option maxRecDepth 20000 in
set_option maxHeartbeats 4000000 in
theorem c_X8_has {l : Launch} {D : va_G} {ad : Nat → Nat} {cI cL : ClassId} (hfl : l.flags = flags0) (hok : adOK ad) (μ : Mem) (x : Int32) (j : Nat) (hj : j < 32) : CtI l D ad cI cL yX8_has wsX8_has (RM 0 0) [.int x, .int (nI j)] μ (fun (r : Int32) (μ' : Mem) => r = b2i (bt x j) ∧ μ' = μ) := by
  refine ct_i (cc := cX8_has) (maxL := 2) (own := RX8) .boolean hfl hok (by decide) rfl rfl rfl (Nat.le_of_ble_eq_true rfl) (fun p e s m below meth c C hr => ?_)
  refine go_lv (lv' := [some (.int x), some (.int (nI j))]) rfl ?_
  refine go_iload0 C (pc := 0) dX8_has_0 ?_
  refine go_iload1 C (pc := 1) dX8_has_1 ?_
  refine go_ishr C (pc := 2) dX8_has_2 ?_
  refine go_iconst C (pc := 3) (v := 1) (by decide) dX8_has_3 ?_
  refine go_iand C (pc := 4) dX8_has_4 ?_
  refine go_top (y := b2i (bt x j)) (sar1 hj) ?_
  refine go_iconst C (pc := 5) (v := 1) (by decide) dX8_has_5 ?_
  refine go_icmp_ne C (pc := 6) (tgt := 13) dX8_has_6 (by decide) (fun h6 => ?_) (fun h6 => ?_)
  · refine go_iconst C (pc := 13) (v := 0) (by decide) dX8_has_13 ?_
    exact go_zret C hr dX8_has_14 (by decide) ⟨by cases q : bt x j; rfl; exact absurd (b2i_1.mpr q) h6, rfl⟩
  · refine go_iconst C (pc := 9) (v := 1) (by decide) dX8_has_9 ?_
    refine go_goto C (pc := 10) (tgt := 14) dX8_has_10 (by decide) ?_
    exact go_zret C hr dX8_has_14 (by decide) ⟨by rw [b2i_1.mp h6]; rfl, rfl⟩

theorem yok_X8_bits : yOK yX8_bits 1 := by unfold yOK; decide +kernel
set_option maxRecDepth 20000 in
set_option maxHeartbeats 4000000 in
theorem c_X8_bits {l : Launch} {D : va_G} {ad : Nat → Nat} {cI cL : ClassId} (hfl : l.flags = flags0) (hok : adOK ad) (μ : Mem) (x : Int32) : CtI l D ad cI cL yX8_bits wsX8_bits (RM 0 0) [.int x] μ (fun (r : Int32) (μ' : Mem) => r = nI (ct x) ∧ μ' = μ) := by
  refine ct_i (cc := cX8_bits) (maxL := 3) (own := RX8) .int hfl hok (by decide) rfl rfl rfl (Nat.le_of_ble_eq_true rfl) (fun p e s m below meth c C hr => ?_)
  refine go_lv (lv' := [some (.int x), none, none]) rfl ?_
  have key : ∀ i, i ≤ 16 → Go p l e (headSpec wsX8_bits (RM 0 0)).room s m ([.int x] : List Value).toArray below meth c 0 0 (MQ below (va_Qi (fun (r : Int32) (μ' : Mem) => r = nI (ct x) ∧ μ' = μ) (fun μ' t => PreW D ad cI cL μ' t) (AW ad)) ([.int x] : List Value).toArray s 0 0 (AW ad)) (AW ad) D ad cI cL 3 4 [some (.int x), some (.int (nI (fb_ct (bt x) i))), some (.int (nI i))] [] (μ) := by
    refine dn_ind ?_ ?_
    · refine go_iload2 C (pc := 4) dX8_bits_4 ?_
      refine go_bipush C (pc := 5) (v := 16) (by decide) dX8_bits_5 ?_
      refine go_icmp_ge C (pc := 7) (tgt := 24) dX8_bits_7 (by decide) (fun h7 => ?_) (fun h7 => ?_)
      · refine go_iload1 C (pc := 24) dX8_bits_24 ?_
        exact go_iret C hr dX8_bits_25 (⟨rfl, rfl⟩)
      · exact absurd (by decide +kernel) h7
    · intro i hi ih
      refine go_iload2 C (pc := 4) dX8_bits_4 ?_
      refine go_bipush C (pc := 5) (v := 16) (by decide) dX8_bits_5 ?_
      refine go_icmp_ge C (pc := 7) (tgt := 24) dX8_bits_7 (by decide) (fun h7 => ?_) (fun h7 => ?_)
      · exact absurd (show (16 : Int32) ≤ nI i from h7) (by rw [nI16]; exact nI_ge hi (by decide))
      · refine go_iload1 C (pc := 10) dX8_bits_10 ?_
        refine go_iload0 C (pc := 11) dX8_bits_11 ?_
        refine go_iload2 C (pc := 12) dX8_bits_12 ?_
        refine go_ishr C (pc := 13) dX8_bits_13 ?_
        refine go_iconst C (pc := 14) (v := 1) (by decide) dX8_bits_14 ?_
        refine go_iand C (pc := 15) dX8_bits_15 ?_
        refine go_top (y := b2i (bt x i)) (sar1 (by omega)) ?_
        refine go_iadd C (pc := 16) dX8_bits_16 ?_
        refine go_istore1 C (pc := 17) dX8_bits_17 ?_
        refine go_iinc2 C (pc := 18) (v := 1) dX8_bits_18 (by decide) ?_
        refine go_goto C (pc := 21) (tgt := 4) dX8_bits_21 (by decide) ?_
        exact go_lv (by rw [nI_1, ct_succ_nI]) ih
  refine go_iconst C (pc := 0) (v := 0) (by decide) dX8_bits_0 ?_
  refine go_istore1 C (pc := 1) dX8_bits_1 ?_
  refine go_iconst C (pc := 2) (v := 0) (by decide) dX8_bits_2 ?_
  refine go_istore2 C (pc := 3) dX8_bits_3 ?_
  exact go_lv (by rw [nI_0]; rfl) (key 0 (Nat.zero_le _))

theorem yok_X8_all : yOK yX8_all 0 := by unfold yOK; decide +kernel
theorem hi_X8_all_RX8 : ∀ w ∈ wsX80, w ∈ wsX8_all := by decide +kernel
theorem lk_X8_all_7 : Cond.fieldLink RX8 7 "ThornCoresModel" "s" "[I" ∈ wsX8_all := by decide +kernel
set_option maxRecDepth 20000 in
set_option maxHeartbeats 4000000 in
theorem c_X8_all {l : Launch} {D : va_G} {ad : Nat → Nat} {cI cL : ClassId} (hfl : l.flags = flags0) (hok : adOK ad) (μ : Mem) {n : Nat} {pr : Int32} {th : Nat → Int32} (hM : Mo μ n pr th) (hT : TV n pr th) : CtI l D ad cI cL yX8_all wsX8_all (RM 0 0) [.ref (ad 25)] μ (fun (r : Int32) (μ' : Mem) => r = allI n ∧ μ' = μ) := by
  refine ct_i (cc := cX8_all) (maxL := 1) (own := RX8) .int hfl hok (by decide) rfl rfl rfl (Nat.le_of_ble_eq_true rfl) (fun p e s m below meth c C hr => ?_)
  refine go_lv (lv' := [some (.ref (ad 25))]) rfl ?_
  obtain ⟨hs0, hs1, hth⟩ := id hM
  have hn := hT.1
  refine go_iconst C (pc := 0) (v := 1) (by decide) dX8_all_0 ?_
  refine go_aload0 C (pc := 1) dX8_all_1 ?_
  refine go_get C (pc := 2) 25 (by decide) rfl rfl 0 (by decide) rfl rfl hi_X8_all_RX8 lk_X8_all_7 dX8_all_2 ?_
  refine go_iconst C (pc := 5) (v := 0) (by decide) dX8_all_5 ?_
  refine go_top (y := nI 0) (by first | rfl | decide +kernel) ?_
  refine go_ialdN C (pc := 6) arr_26 (i := 0) (by omega) dX8_all_6 ?_
  refine go_top (y := nI n) hs0 ?_
  refine go_ishl C (pc := 7) dX8_all_7 ?_
  refine go_iconst C (pc := 8) (v := 1) (by decide) dX8_all_8 ?_
  refine go_isub C (pc := 9) dX8_all_9 ?_
  exact go_iret C hr dX8_all_10 (⟨rfl, rfl⟩)

theorem yok_X8_isPlant : yOK yX8_isPlant 1 := by unfold yOK; decide +kernel
theorem hi_X8_isPlant_RX8 : ∀ w ∈ wsX80, w ∈ wsX8_isPlant := by decide +kernel
theorem lk_X8_isPlant_7 : Cond.fieldLink RX8 7 "ThornCoresModel" "s" "[I" ∈ wsX8_isPlant := by decide +kernel
set_option maxRecDepth 20000 in
set_option maxHeartbeats 4000000 in
theorem c_X8_isPlant {l : Launch} {D : va_G} {ad : Nat → Nat} {cI cL : ClassId} (hfl : l.flags = flags0) (hok : adOK ad) (μ : Mem) (p0 : Int32) {n : Nat} {pr : Int32} {th : Nat → Int32} (hM : Mo μ n pr th) (hT : TV n pr th) : CtI l D ad cI cL yX8_isPlant wsX8_isPlant (RM 1 22) [.ref (ad 25), .int p0] μ (fun (r : Int32) (μ' : Mem) => r = b2i (hasB (nI n) p0) ∧ μ' = μ) := by
  refine ct_i (cc := cX8_isPlant) (maxL := 2) (own := RX8) .boolean hfl hok (by decide) rfl rfl rfl (Nat.le_of_ble_eq_true rfl) (fun p e s m below meth c C hr => ?_)
  refine go_lv (lv' := [some (.ref (ad 25)), some (.int p0)]) rfl ?_
  obtain ⟨hs0, hs1, hth⟩ := id hM
  have hn := hT.1
  refine go_iload1 C (pc := 0) dX8_isPlant_0 ?_
  refine go_iconst C (pc := 1) (v := 0) (by decide) dX8_isPlant_1 ?_
  refine go_aload0 C (pc := 2) dX8_isPlant_2 ?_
  refine go_get C (pc := 3) 25 (by decide) rfl rfl 0 (by decide) rfl rfl hi_X8_isPlant_RX8 lk_X8_isPlant_7 dX8_isPlant_3 ?_
  refine go_iconst C (pc := 6) (v := 0) (by decide) dX8_isPlant_6 ?_
  refine go_top (y := nI 0) (by first | rfl | decide +kernel) ?_
  refine go_ialdN C (pc := 7) arr_26 (i := 0) (by omega) dX8_isPlant_7 ?_
  refine go_top (y := nI n) hs0 ?_
  refine go_iconst C (pc := 8) (v := 1) (by decide) dX8_isPlant_8 ?_
  refine go_isub C (pc := 9) dX8_isPlant_9 ?_
  refine go_ciS3 C (pc := 10) (c_X8_in C.fl C.ok _ _ _ _ ) gX8_isPlant_X8_in rfl yok_X8_in ⟨rfl, rfl⟩ ⟨Nat.le_of_ble_eq_true rfl, Nat.le_of_ble_eq_true rfl⟩ (Nat.le_of_ble_eq_true rfl) ⟨Nat.zero_le _, Nat.zero_le _⟩ dX8_isPlant_10 (fun r1 μ1 hc1 => ?_)
  obtain ⟨rfl, hm1⟩ := hc1
  replace hm1 := hm1.symm
  subst hm1
  refine go_top (y := b2i (inR p0 0 (nI n - 1))) rfl ?_
  refine go_top (y := b2i (hasB (nI n) p0)) (by rw [inR_plant hn]) ?_
  exact go_zret C hr dX8_isPlant_13 (by first | decide | exact b2i_01 _) (⟨rfl, rfl⟩)

theorem yok_X8_isThere : yOK yX8_isThere 1 := by unfold yOK; decide +kernel
theorem hi_X8_isThere_RX8 : ∀ w ∈ wsX80, w ∈ wsX8_isThere := by decide +kernel
theorem lk_X8_isThere_31 : Cond.fieldLink RX8 31 "ThornCoresModel" "thrown" "I" ∈ wsX8_isThere := by decide +kernel
set_option maxRecDepth 20000 in
set_option maxHeartbeats 4000000 in
theorem c_X8_isThere {l : Launch} {D : va_G} {ad : Nat → Nat} {cI cL : ClassId} (hfl : l.flags = flags0) (hok : adOK ad) (μ : Mem) (p0 : Int32) {n : Nat} {pr : Int32} {th : Nat → Int32} (hM : Mo μ n pr th) (hT : TV n pr th) : CtI l D ad cI cL yX8_isThere wsX8_isThere (RM 2 43) [.ref (ad 25), .int p0] μ (fun (r : Int32) (μ' : Mem) => r = b2i (decide (cd1 (nI n) p0 = 0)) ∧ μ' = mset μ 25 (upd (μ 25) 7 (cd1 (nI n) p0))) := by
  refine ct_i (cc := cX8_isThere) (maxL := 2) (own := RX8) .boolean hfl hok (by decide) rfl rfl rfl (Nat.le_of_ble_eq_true rfl) (fun p e s m below meth c C hr => ?_)
  refine go_lv (lv' := [some (.ref (ad 25)), some (.int p0)]) rfl ?_
  obtain ⟨hs0, hs1, hth⟩ := id hM
  have hn := hT.1
  refine go_aload0 C (pc := 0) dX8_isThere_0 ?_
  refine go_aload0 C (pc := 1) dX8_isThere_1 ?_
  refine go_iload1 C (pc := 2) dX8_isThere_2 ?_
  refine go_ciV1 C (pc := 3) obj_25 (c_X8_isPlant C.fl C.ok _ _ hM hT) gX8_isThere_X8_isPlant rfl rfl yok_X8_isPlant ⟨rfl, rfl⟩ ⟨Nat.le_of_ble_eq_true rfl, Nat.le_of_ble_eq_true rfl⟩ (Nat.le_of_ble_eq_true rfl) ⟨Nat.zero_le _, Nat.zero_le _⟩ dX8_isThere_3 (fun r1 μ1 hc1 => ?_)
  obtain ⟨rfl, hm1⟩ := hc1
  replace hm1 := hm1.symm
  subst hm1
  refine go_if_eq C (pc := 6) (tgt := 13) dX8_isThere_6 (by decide) (fun h6 => ?_) (fun h6 => ?_)
  · refine go_iconst C (pc := 13) (v := 1) (by decide) dX8_isThere_13 ?_
    refine go_put C (pc := 14) 25 (by decide) rfl rfl 7 (by decide) rfl hi_X8_isThere_RX8 lk_X8_isThere_31 tyX8_ok nmX8 rfl rfl rfl (Nat.le_of_ble_eq_true rfl) rfl dX8_isThere_14 ?_
    refine go_aload0 C (pc := 17) dX8_isThere_17 ?_
    refine go_get C (pc := 18) 25 (by decide) rfl rfl 7 (by decide) rfl rfl hi_X8_isThere_RX8 lk_X8_isThere_31 dX8_isThere_18 ?_
    refine go_if_ne C (pc := 21) (tgt := 28) dX8_isThere_21 (by decide) (fun h21 => ?_) (fun h21 => ?_)
    · refine go_iconst C (pc := 28) (v := 0) (by decide) dX8_isThere_28 ?_
      have hv : cd1 (nI n) p0 = 1 := if_neg (by rw [bpos h6]; decide)
      exact go_zret C hr dX8_isThere_29 (by decide) ⟨by rw [hv]; rfl, by rw [hv]⟩
    · refine go_iconst C (pc := 24) (v := 1) (by decide) dX8_isThere_24 ?_
      refine go_goto C (pc := 25) (tgt := 29) dX8_isThere_25 (by decide) ?_
      exact absurd (show (1 : Int32) = 0 from h21) (by decide)
  · refine go_iconst C (pc := 9) (v := 0) (by decide) dX8_isThere_9 ?_
    refine go_goto C (pc := 10) (tgt := 14) dX8_isThere_10 (by decide) ?_
    refine go_put C (pc := 14) 25 (by decide) rfl rfl 7 (by decide) rfl hi_X8_isThere_RX8 lk_X8_isThere_31 tyX8_ok nmX8 rfl rfl rfl (Nat.le_of_ble_eq_true rfl) rfl dX8_isThere_14 ?_
    refine go_aload0 C (pc := 17) dX8_isThere_17 ?_
    refine go_get C (pc := 18) 25 (by decide) rfl rfl 7 (by decide) rfl rfl hi_X8_isThere_RX8 lk_X8_isThere_31 dX8_isThere_18 ?_
    refine go_if_ne C (pc := 21) (tgt := 28) dX8_isThere_21 (by decide) (fun h21 => ?_) (fun h21 => ?_)
    · refine go_iconst C (pc := 28) (v := 0) (by decide) dX8_isThere_28 ?_
      exact absurd rfl (show ¬ (0 : Int32) = 0 from h21)
    · refine go_iconst C (pc := 24) (v := 1) (by decide) dX8_isThere_24 ?_
      refine go_goto C (pc := 25) (tgt := 29) dX8_isThere_25 (by decide) ?_
      have hv : cd1 (nI n) p0 = 0 := if_pos (bneg h6)
      exact go_zret C hr dX8_isThere_29 (by decide) ⟨by rw [hv]; rfl, by rw [hv]⟩

theorem yok_X8_isDepth : yOK yX8_isDepth 1 := by unfold yOK; decide +kernel
theorem hi_X8_isDepth_RX8 : ∀ w ∈ wsX80, w ∈ wsX8_isDepth := by decide +kernel
theorem lk_X8_isDepth_31 : Cond.fieldLink RX8 31 "ThornCoresModel" "thrown" "I" ∈ wsX8_isDepth := by decide +kernel
set_option maxRecDepth 20000 in
set_option maxHeartbeats 4000000 in
theorem c_X8_isDepth {l : Launch} {D : va_G} {ad : Nat → Nat} {cI cL : ClassId} (hfl : l.flags = flags0) (hok : adOK ad) (μ : Mem) (p0 : Int32) : CtI l D ad cI cL yX8_isDepth wsX8_isDepth (RM 1 22) [.ref (ad 25), .int p0] μ (fun (r : Int32) (μ' : Mem) => r = b2i (decide (cdK p0 = 0)) ∧ μ' = mset μ 25 (upd (μ 25) 7 (cdK p0))) := by
  refine ct_i (cc := cX8_isDepth) (maxL := 2) (own := RX8) .boolean hfl hok (by decide) rfl rfl rfl (Nat.le_of_ble_eq_true rfl) (fun p e s m below meth c C hr => ?_)
  refine go_lv (lv' := [some (.ref (ad 25)), some (.int p0)]) rfl ?_
  refine go_aload0 C (pc := 0) dX8_isDepth_0 ?_
  refine go_iload1 C (pc := 1) dX8_isDepth_1 ?_
  refine go_iconst C (pc := 2) (v := 0) (by decide) dX8_isDepth_2 ?_
  refine go_bipush C (pc := 3) (v := 15) (by decide) dX8_isDepth_3 ?_
  refine go_ciS3 C (pc := 5) (c_X8_in C.fl C.ok _ _ _ _ ) gX8_isDepth_X8_in rfl yok_X8_in ⟨rfl, rfl⟩ ⟨Nat.le_of_ble_eq_true rfl, Nat.le_of_ble_eq_true rfl⟩ (Nat.le_of_ble_eq_true rfl) ⟨Nat.zero_le _, Nat.zero_le _⟩ dX8_isDepth_5 (fun r1 μ1 hc1 => ?_)
  obtain ⟨rfl, hm1⟩ := hc1
  replace hm1 := hm1.symm
  subst hm1
  refine go_if_eq C (pc := 8) (tgt := 15) dX8_isDepth_8 (by decide) (fun h8 => ?_) (fun h8 => ?_)
  · refine go_iconst C (pc := 15) (v := 1) (by decide) dX8_isDepth_15 ?_
    refine go_put C (pc := 16) 25 (by decide) rfl rfl 7 (by decide) rfl hi_X8_isDepth_RX8 lk_X8_isDepth_31 tyX8_ok nmX8 rfl rfl rfl (Nat.le_of_ble_eq_true rfl) rfl dX8_isDepth_16 ?_
    refine go_aload0 C (pc := 19) dX8_isDepth_19 ?_
    refine go_get C (pc := 20) 25 (by decide) rfl rfl 7 (by decide) rfl rfl hi_X8_isDepth_RX8 lk_X8_isDepth_31 dX8_isDepth_20 ?_
    refine go_if_ne C (pc := 23) (tgt := 30) dX8_isDepth_23 (by decide) (fun h23 => ?_) (fun h23 => ?_)
    · refine go_iconst C (pc := 30) (v := 0) (by decide) dX8_isDepth_30 ?_
      have hv : cdK p0 = 1 := if_neg (by rw [bpos h8]; decide)
      exact go_zret C hr dX8_isDepth_31 (by decide) ⟨by rw [hv]; rfl, by rw [hv]⟩
    · refine go_iconst C (pc := 26) (v := 1) (by decide) dX8_isDepth_26 ?_
      refine go_goto C (pc := 27) (tgt := 31) dX8_isDepth_27 (by decide) ?_
      exact absurd (show (1 : Int32) = 0 from h23) (by decide)
  · refine go_iconst C (pc := 11) (v := 0) (by decide) dX8_isDepth_11 ?_
    refine go_goto C (pc := 12) (tgt := 16) dX8_isDepth_12 (by decide) ?_
    refine go_put C (pc := 16) 25 (by decide) rfl rfl 7 (by decide) rfl hi_X8_isDepth_RX8 lk_X8_isDepth_31 tyX8_ok nmX8 rfl rfl rfl (Nat.le_of_ble_eq_true rfl) rfl dX8_isDepth_16 ?_
    refine go_aload0 C (pc := 19) dX8_isDepth_19 ?_
    refine go_get C (pc := 20) 25 (by decide) rfl rfl 7 (by decide) rfl rfl hi_X8_isDepth_RX8 lk_X8_isDepth_31 dX8_isDepth_20 ?_
    refine go_if_ne C (pc := 23) (tgt := 30) dX8_isDepth_23 (by decide) (fun h23 => ?_) (fun h23 => ?_)
    · refine go_iconst C (pc := 30) (v := 0) (by decide) dX8_isDepth_30 ?_
      exact absurd rfl (show ¬ (0 : Int32) = 0 from h23)
    · refine go_iconst C (pc := 26) (v := 1) (by decide) dX8_isDepth_26 ?_
      refine go_goto C (pc := 27) (tgt := 31) dX8_isDepth_27 (by decide) ?_
      have hv : cdK p0 = 0 := if_pos (bneg h8)
      exact go_zret C hr dX8_isDepth_31 (by decide) ⟨by rw [hv]; rfl, by rw [hv]⟩

theorem yok_X8_areBound : yOK yX8_areBound 2 := by unfold yOK; decide +kernel
theorem hi_X8_areBound_RX8 : ∀ w ∈ wsX80, w ∈ wsX8_areBound := by decide +kernel
theorem lk_X8_areBound_7 : Cond.fieldLink RX8 7 "ThornCoresModel" "s" "[I" ∈ wsX8_areBound := by decide +kernel
set_option maxRecDepth 20000 in
set_option maxHeartbeats 4000000 in
theorem c_X8_areBound {l : Launch} {D : va_G} {ad : Nat → Nat} {cI cL : ClassId} (hfl : l.flags = flags0) (hok : adOK ad) (μ : Mem) (i j : Nat) {n : Nat} {pr : Int32} {th : Nat → Int32} (hM : Mo μ n pr th) (hT : TV n pr th) (hi : i < 16) (hj : j < 32) : CtI l D ad cI cL yX8_areBound wsX8_areBound (RM 1 21) [.ref (ad 25), .int (nI i), .int (nI j)] μ (fun (r : Int32) (μ' : Mem) => r = b2i (bt (th i) j) ∧ μ' = μ) := by
  refine ct_i (cc := cX8_areBound) (maxL := 3) (own := RX8) .boolean hfl hok (by decide) rfl rfl rfl (Nat.le_of_ble_eq_true rfl) (fun p e s m below meth c C hr => ?_)
  refine go_lv (lv' := [some (.ref (ad 25)), some (.int (nI i)), some (.int (nI j))]) rfl ?_
  obtain ⟨hs0, hs1, hth⟩ := id hM
  have hn := hT.1
  refine go_aload0 C (pc := 0) dX8_areBound_0 ?_
  refine go_get C (pc := 1) 25 (by decide) rfl rfl 0 (by decide) rfl rfl hi_X8_areBound_RX8 lk_X8_areBound_7 dX8_areBound_1 ?_
  refine go_iconst C (pc := 4) (v := 2) (by decide) dX8_areBound_4 ?_
  refine go_iload1 C (pc := 5) dX8_areBound_5 ?_
  refine go_iadd C (pc := 6) dX8_areBound_6 ?_
  refine go_top (y := nI (2 + i)) (by rw [show (2 : Int32) = nI 2 from by decide +kernel, nI_add]) ?_
  refine go_ialdN C (pc := 7) arr_26 (i := (2 + i)) (by omega) dX8_areBound_7 ?_
  refine go_top (y := th i) (hth _ (by omega)) ?_
  refine go_iload2 C (pc := 8) dX8_areBound_8 ?_
  refine go_ciS2 C (pc := 9) (c_X8_has C.fl C.ok _ _ _ hj) gX8_areBound_X8_has rfl yok_X8_has ⟨rfl, rfl⟩ ⟨Nat.le_of_ble_eq_true rfl, Nat.le_of_ble_eq_true rfl⟩ (Nat.le_of_ble_eq_true rfl) ⟨Nat.zero_le _, Nat.zero_le _⟩ dX8_areBound_9 (fun r1 μ1 hc1 => ?_)
  obtain ⟨rfl, hm1⟩ := hc1
  replace hm1 := hm1.symm
  subst hm1
  exact go_zret C hr dX8_areBound_12 (by first | decide | exact b2i_01 _) (⟨rfl, rfl⟩)

theorem yok_X8_areThere : yOK yX8_areThere 2 := by unfold yOK; decide +kernel
theorem hi_X8_areThere_RX8 : ∀ w ∈ wsX80, w ∈ wsX8_areThere := by decide +kernel
theorem lk_X8_areThere_31 : Cond.fieldLink RX8 31 "ThornCoresModel" "thrown" "I" ∈ wsX8_areThere := by decide +kernel
set_option maxRecDepth 20000 in
set_option maxHeartbeats 4000000 in
theorem c_X8_areThere {l : Launch} {D : va_G} {ad : Nat → Nat} {cI cL : ClassId} (hfl : l.flags = flags0) (hok : adOK ad) (μ : Mem) (p0 p1 : Int32) {n : Nat} {pr : Int32} {th : Nat → Int32} (hM : Mo μ n pr th) (hT : TV n pr th) : CtI l D ad cI cL yX8_areThere wsX8_areThere (RM 2 43) [.ref (ad 25), .int p0, .int p1] μ (fun (r : Int32) (μ' : Mem) => r = b2i (decide (cd2 (nI n) p0 p1 = 0)) ∧ μ' = mset μ 25 (upd (μ 25) 7 (cd2 (nI n) p0 p1))) := by
  refine ct_i (cc := cX8_areThere) (maxL := 3) (own := RX8) .boolean hfl hok (by decide) rfl rfl rfl (Nat.le_of_ble_eq_true rfl) (fun p e s m below meth c C hr => ?_)
  refine go_lv (lv' := [some (.ref (ad 25)), some (.int p0), some (.int p1)]) rfl ?_
  obtain ⟨hs0, hs1, hth⟩ := id hM
  have hn := hT.1
  refine go_aload0 C (pc := 0) dX8_areThere_0 ?_
  refine go_aload0 C (pc := 1) dX8_areThere_1 ?_
  refine go_iload1 C (pc := 2) dX8_areThere_2 ?_
  refine go_ciV1 C (pc := 3) obj_25 (c_X8_isPlant C.fl C.ok _ _ hM hT) gX8_areThere_X8_isPlant rfl rfl yok_X8_isPlant ⟨rfl, rfl⟩ ⟨Nat.le_of_ble_eq_true rfl, Nat.le_of_ble_eq_true rfl⟩ (Nat.le_of_ble_eq_true rfl) ⟨Nat.zero_le _, Nat.zero_le _⟩ dX8_areThere_3 (fun r1 μ1 hc1 => ?_)
  obtain ⟨rfl, hm1⟩ := hc1
  replace hm1 := hm1.symm
  subst hm1
  refine go_if_eq C (pc := 6) (tgt := 17) dX8_areThere_6 (by decide) (fun h6 => ?_) (fun h6 => ?_)
  · refine go_iconst C (pc := 17) (v := 1) (by decide) dX8_areThere_17 ?_
    refine go_goto C (pc := 18) (tgt := 31) dX8_areThere_18 (by decide) ?_
    refine go_put C (pc := 31) 25 (by decide) rfl rfl 7 (by decide) rfl hi_X8_areThere_RX8 lk_X8_areThere_31 tyX8_ok nmX8 rfl rfl rfl (Nat.le_of_ble_eq_true rfl) rfl dX8_areThere_31 ?_
    refine go_aload0 C (pc := 34) dX8_areThere_34 ?_
    refine go_get C (pc := 35) 25 (by decide) rfl rfl 7 (by decide) rfl rfl hi_X8_areThere_RX8 lk_X8_areThere_31 dX8_areThere_35 ?_
    refine go_if_ne C (pc := 38) (tgt := 45) dX8_areThere_38 (by decide) (fun h38 => ?_) (fun h38 => ?_)
    · refine go_iconst C (pc := 45) (v := 0) (by decide) dX8_areThere_45 ?_
      have hv : cd2 (nI n) p0 p1 = 1 := by rw [cd2, if_neg (by rw [bpos h6]; decide)]
      exact go_zret C hr dX8_areThere_46 (by decide) ⟨by rw [hv]; rfl, by rw [hv]⟩
    · refine go_iconst C (pc := 41) (v := 1) (by decide) dX8_areThere_41 ?_
      refine go_goto C (pc := 42) (tgt := 46) dX8_areThere_42 (by decide) ?_
      exact absurd (show (1 : Int32) = 0 from h38) (by decide)
  · refine go_aload0 C (pc := 9) dX8_areThere_9 ?_
    refine go_iload2 C (pc := 10) dX8_areThere_10 ?_
    refine go_ciV1 C (pc := 11) obj_25 (c_X8_isPlant C.fl C.ok _ _ hM hT) gX8_areThere_X8_isPlant rfl rfl yok_X8_isPlant ⟨rfl, rfl⟩ ⟨Nat.le_of_ble_eq_true rfl, Nat.le_of_ble_eq_true rfl⟩ (Nat.le_of_ble_eq_true rfl) ⟨Nat.zero_le _, Nat.zero_le _⟩ dX8_areThere_11 (fun r4 μ4 hc4 => ?_)
    obtain ⟨rfl, hm4⟩ := hc4
    replace hm4 := hm4.symm
    subst hm4
    refine go_if_ne C (pc := 14) (tgt := 21) dX8_areThere_14 (by decide) (fun h14 => ?_) (fun h14 => ?_)
    · refine go_iload1 C (pc := 21) dX8_areThere_21 ?_
      refine go_iload2 C (pc := 22) dX8_areThere_22 ?_
      refine go_icmp_ne C (pc := 23) (tgt := 30) dX8_areThere_23 (by decide) (fun h23 => ?_) (fun h23 => ?_)
      · refine go_iconst C (pc := 30) (v := 0) (by decide) dX8_areThere_30 ?_
        refine go_put C (pc := 31) 25 (by decide) rfl rfl 7 (by decide) rfl hi_X8_areThere_RX8 lk_X8_areThere_31 tyX8_ok nmX8 rfl rfl rfl (Nat.le_of_ble_eq_true rfl) rfl dX8_areThere_31 ?_
        refine go_aload0 C (pc := 34) dX8_areThere_34 ?_
        refine go_get C (pc := 35) 25 (by decide) rfl rfl 7 (by decide) rfl rfl hi_X8_areThere_RX8 lk_X8_areThere_31 dX8_areThere_35 ?_
        refine go_if_ne C (pc := 38) (tgt := 45) dX8_areThere_38 (by decide) (fun h38 => ?_) (fun h38 => ?_)
        · refine go_iconst C (pc := 45) (v := 0) (by decide) dX8_areThere_45 ?_
          exact absurd rfl (show ¬ (0 : Int32) = 0 from h38)
        · refine go_iconst C (pc := 41) (v := 1) (by decide) dX8_areThere_41 ?_
          refine go_goto C (pc := 42) (tgt := 46) dX8_areThere_42 (by decide) ?_
          have hv : cd2 (nI n) p0 p1 = 0 := by rw [cd2, if_pos (bneg h6), if_pos (bneg h14), if_neg h23]
          exact go_zret C hr dX8_areThere_46 (by decide) ⟨by rw [hv]; rfl, by rw [hv]⟩
      · refine go_iconst C (pc := 26) (v := 2) (by decide) dX8_areThere_26 ?_
        refine go_goto C (pc := 27) (tgt := 31) dX8_areThere_27 (by decide) ?_
        refine go_put C (pc := 31) 25 (by decide) rfl rfl 7 (by decide) rfl hi_X8_areThere_RX8 lk_X8_areThere_31 tyX8_ok nmX8 rfl rfl rfl (Nat.le_of_ble_eq_true rfl) rfl dX8_areThere_31 ?_
        refine go_aload0 C (pc := 34) dX8_areThere_34 ?_
        refine go_get C (pc := 35) 25 (by decide) rfl rfl 7 (by decide) rfl rfl hi_X8_areThere_RX8 lk_X8_areThere_31 dX8_areThere_35 ?_
        refine go_if_ne C (pc := 38) (tgt := 45) dX8_areThere_38 (by decide) (fun h38 => ?_) (fun h38 => ?_)
        · refine go_iconst C (pc := 45) (v := 0) (by decide) dX8_areThere_45 ?_
          have hv : cd2 (nI n) p0 p1 = 2 := by rw [cd2, if_pos (bneg h6), if_pos (bneg h14), if_pos h23]
          exact go_zret C hr dX8_areThere_46 (by decide) ⟨by rw [hv]; rfl, by rw [hv]⟩
        · refine go_iconst C (pc := 41) (v := 1) (by decide) dX8_areThere_41 ?_
          refine go_goto C (pc := 42) (tgt := 46) dX8_areThere_42 (by decide) ?_
          exact absurd (show (2 : Int32) = 0 from h38) (by decide)
    · refine go_iconst C (pc := 17) (v := 1) (by decide) dX8_areThere_17 ?_
      refine go_goto C (pc := 18) (tgt := 31) dX8_areThere_18 (by decide) ?_
      refine go_put C (pc := 31) 25 (by decide) rfl rfl 7 (by decide) rfl hi_X8_areThere_RX8 lk_X8_areThere_31 tyX8_ok nmX8 rfl rfl rfl (Nat.le_of_ble_eq_true rfl) rfl dX8_areThere_31 ?_
      refine go_aload0 C (pc := 34) dX8_areThere_34 ?_
      refine go_get C (pc := 35) 25 (by decide) rfl rfl 7 (by decide) rfl rfl hi_X8_areThere_RX8 lk_X8_areThere_31 dX8_areThere_35 ?_
      refine go_if_ne C (pc := 38) (tgt := 45) dX8_areThere_38 (by decide) (fun h38 => ?_) (fun h38 => ?_)
      · refine go_iconst C (pc := 45) (v := 0) (by decide) dX8_areThere_45 ?_
        have hv : cd2 (nI n) p0 p1 = 1 := by rw [cd2, if_pos (bneg h6), if_neg (by rw [bpos h14]; decide)]
        exact go_zret C hr dX8_areThere_46 (by decide) ⟨by rw [hv]; rfl, by rw [hv]⟩
      · refine go_iconst C (pc := 41) (v := 1) (by decide) dX8_areThere_41 ?_
        refine go_goto C (pc := 42) (tgt := 46) dX8_areThere_42 (by decide) ?_
        exact absurd (show (1 : Int32) = 0 from h38) (by decide)

theorem yok_X8_isThorn : yOK yX8_isThorn 2 := by unfold yOK; decide +kernel
theorem hi_X8_isThorn_RX8 : ∀ w ∈ wsX80, w ∈ wsX8_isThorn := by decide +kernel
theorem lk_X8_isThorn_31 : Cond.fieldLink RX8 31 "ThornCoresModel" "thrown" "I" ∈ wsX8_isThorn := by decide +kernel
set_option maxRecDepth 20000 in
set_option maxHeartbeats 4000000 in
theorem c_X8_isThorn {l : Launch} {D : va_G} {ad : Nat → Nat} {cI cL : ClassId} (hfl : l.flags = flags0) (hok : adOK ad) (μ : Mem) (p0 p1 : Int32) {n : Nat} {pr : Int32} {th : Nat → Int32} (hM : Mo μ n pr th) (hT : TV n pr th) : CtI l D ad cI cL yX8_isThorn wsX8_isThorn (RM 2 43) [.ref (ad 25), .int p0, .int p1] μ (fun (r : Int32) (μ' : Mem) => r = b2i (decide (cdT (nI n) th p0 p1 = 0)) ∧ μ' = mset μ 25 (upd (μ 25) 7 (cdT (nI n) th p0 p1))) := by
  refine ct_i (cc := cX8_isThorn) (maxL := 3) (own := RX8) .boolean hfl hok (by decide) rfl rfl rfl (Nat.le_of_ble_eq_true rfl) (fun p e s m below meth c C hr => ?_)
  refine go_lv (lv' := [some (.ref (ad 25)), some (.int p0), some (.int p1)]) rfl ?_
  obtain ⟨hs0, hs1, hth⟩ := id hM
  have hn := hT.1
  refine go_aload0 C (pc := 0) dX8_isThorn_0 ?_
  refine go_aload0 C (pc := 1) dX8_isThorn_1 ?_
  refine go_iload1 C (pc := 2) dX8_isThorn_2 ?_
  refine go_ciV1 C (pc := 3) obj_25 (c_X8_isPlant C.fl C.ok _ _ hM hT) gX8_isThorn_X8_isPlant rfl rfl yok_X8_isPlant ⟨rfl, rfl⟩ ⟨Nat.le_of_ble_eq_true rfl, Nat.le_of_ble_eq_true rfl⟩ (Nat.le_of_ble_eq_true rfl) ⟨Nat.zero_le _, Nat.zero_le _⟩ dX8_isThorn_3 (fun r1 μ1 hc1 => ?_)
  obtain ⟨rfl, hm1⟩ := hc1
  replace hm1 := hm1.symm
  subst hm1
  refine go_if_eq C (pc := 6) (tgt := 17) dX8_isThorn_6 (by decide) (fun h6 => ?_) (fun h6 => ?_)
  · refine go_iconst C (pc := 17) (v := 1) (by decide) dX8_isThorn_17 ?_
    refine go_goto C (pc := 18) (tgt := 35) dX8_isThorn_18 (by decide) ?_
    refine go_put C (pc := 35) 25 (by decide) rfl rfl 7 (by decide) rfl hi_X8_isThorn_RX8 lk_X8_isThorn_31 tyX8_ok nmX8 rfl rfl rfl (Nat.le_of_ble_eq_true rfl) rfl dX8_isThorn_35 ?_
    refine go_aload0 C (pc := 38) dX8_isThorn_38 ?_
    refine go_get C (pc := 39) 25 (by decide) rfl rfl 7 (by decide) rfl rfl hi_X8_isThorn_RX8 lk_X8_isThorn_31 dX8_isThorn_39 ?_
    refine go_if_ne C (pc := 42) (tgt := 49) dX8_isThorn_42 (by decide) (fun h42 => ?_) (fun h42 => ?_)
    · refine go_iconst C (pc := 49) (v := 0) (by decide) dX8_isThorn_49 ?_
      have hv : cdT (nI n) th p0 p1 = 1 := by rw [cdT, if_neg (by rw [bpos h6]; decide)]
      exact go_zret C hr dX8_isThorn_50 (by decide) ⟨by rw [hv]; rfl, by rw [hv]⟩
    · refine go_iconst C (pc := 45) (v := 1) (by decide) dX8_isThorn_45 ?_
      refine go_goto C (pc := 46) (tgt := 50) dX8_isThorn_46 (by decide) ?_
      exact absurd (show (1 : Int32) = 0 from h42) (by decide)
  · refine go_aload0 C (pc := 9) dX8_isThorn_9 ?_
    refine go_iload2 C (pc := 10) dX8_isThorn_10 ?_
    refine go_ciV1 C (pc := 11) obj_25 (c_X8_isPlant C.fl C.ok _ _ hM hT) gX8_isThorn_X8_isPlant rfl rfl yok_X8_isPlant ⟨rfl, rfl⟩ ⟨Nat.le_of_ble_eq_true rfl, Nat.le_of_ble_eq_true rfl⟩ (Nat.le_of_ble_eq_true rfl) ⟨Nat.zero_le _, Nat.zero_le _⟩ dX8_isThorn_11 (fun r4 μ4 hc4 => ?_)
    obtain ⟨rfl, hm4⟩ := hc4
    replace hm4 := hm4.symm
    subst hm4
    refine go_if_ne C (pc := 14) (tgt := 21) dX8_isThorn_14 (by decide) (fun h14 => ?_) (fun h14 => ?_)
    · obtain ⟨i, hi, rfl⟩ := has_ex rfl hn (bneg h6)
      obtain ⟨j, hj, rfl⟩ := has_ex rfl hn (bneg h14)
      refine go_aload0 C (pc := 21) dX8_isThorn_21 ?_
      refine go_iload1 C (pc := 22) dX8_isThorn_22 ?_
      refine go_iload2 C (pc := 23) dX8_isThorn_23 ?_
      refine go_ciV2 C (pc := 24) obj_25 (c_X8_areBound C.fl C.ok _ _ _ hM hT (by omega) (by omega)) gX8_isThorn_X8_areBound rfl rfl yok_X8_areBound ⟨rfl, rfl⟩ ⟨Nat.le_of_ble_eq_true rfl, Nat.le_of_ble_eq_true rfl⟩ (Nat.le_of_ble_eq_true rfl) ⟨Nat.zero_le _, Nat.zero_le _⟩ dX8_isThorn_24 (fun r6 μ6 hc6 => ?_)
      obtain ⟨rfl, hm6⟩ := hc6
      replace hm6 := hm6.symm
      subst hm6
      refine go_if_eq C (pc := 27) (tgt := 34) dX8_isThorn_27 (by decide) (fun h27 => ?_) (fun h27 => ?_)
      · refine go_iconst C (pc := 34) (v := 2) (by decide) dX8_isThorn_34 ?_
        refine go_put C (pc := 35) 25 (by decide) rfl rfl 7 (by decide) rfl hi_X8_isThorn_RX8 lk_X8_isThorn_31 tyX8_ok nmX8 rfl rfl rfl (Nat.le_of_ble_eq_true rfl) rfl dX8_isThorn_35 ?_
        refine go_aload0 C (pc := 38) dX8_isThorn_38 ?_
        refine go_get C (pc := 39) 25 (by decide) rfl rfl 7 (by decide) rfl rfl hi_X8_isThorn_RX8 lk_X8_isThorn_31 dX8_isThorn_39 ?_
        refine go_if_ne C (pc := 42) (tgt := 49) dX8_isThorn_42 (by decide) (fun h42 => ?_) (fun h42 => ?_)
        · refine go_iconst C (pc := 49) (v := 0) (by decide) dX8_isThorn_49 ?_
          have hv : cdT (nI n) th (nI i) (nI j) = 2 := by rw [cdT, if_pos (bneg h6), if_pos (bneg h14), bndB_nI rfl hT (by omega) (by omega), if_neg (by rw [bpos h27]; decide)]
          exact go_zret C hr dX8_isThorn_50 (by decide) ⟨by rw [hv]; rfl, by rw [hv]⟩
        · refine go_iconst C (pc := 45) (v := 1) (by decide) dX8_isThorn_45 ?_
          refine go_goto C (pc := 46) (tgt := 50) dX8_isThorn_46 (by decide) ?_
          exact absurd (show (2 : Int32) = 0 from h42) (by decide)
      · refine go_iconst C (pc := 30) (v := 0) (by decide) dX8_isThorn_30 ?_
        refine go_goto C (pc := 31) (tgt := 35) dX8_isThorn_31 (by decide) ?_
        refine go_put C (pc := 35) 25 (by decide) rfl rfl 7 (by decide) rfl hi_X8_isThorn_RX8 lk_X8_isThorn_31 tyX8_ok nmX8 rfl rfl rfl (Nat.le_of_ble_eq_true rfl) rfl dX8_isThorn_35 ?_
        refine go_aload0 C (pc := 38) dX8_isThorn_38 ?_
        refine go_get C (pc := 39) 25 (by decide) rfl rfl 7 (by decide) rfl rfl hi_X8_isThorn_RX8 lk_X8_isThorn_31 dX8_isThorn_39 ?_
        refine go_if_ne C (pc := 42) (tgt := 49) dX8_isThorn_42 (by decide) (fun h42 => ?_) (fun h42 => ?_)
        · refine go_iconst C (pc := 49) (v := 0) (by decide) dX8_isThorn_49 ?_
          exact absurd rfl (show ¬ (0 : Int32) = 0 from h42)
        · refine go_iconst C (pc := 45) (v := 1) (by decide) dX8_isThorn_45 ?_
          refine go_goto C (pc := 46) (tgt := 50) dX8_isThorn_46 (by decide) ?_
          have hv : cdT (nI n) th (nI i) (nI j) = 0 := by rw [cdT, if_pos (bneg h6), if_pos (bneg h14), bndB_nI rfl hT (by omega) (by omega), if_pos (bneg h27)]
          exact go_zret C hr dX8_isThorn_50 (by decide) ⟨by rw [hv]; rfl, by rw [hv]⟩
    · refine go_iconst C (pc := 17) (v := 1) (by decide) dX8_isThorn_17 ?_
      refine go_goto C (pc := 18) (tgt := 35) dX8_isThorn_18 (by decide) ?_
      refine go_put C (pc := 35) 25 (by decide) rfl rfl 7 (by decide) rfl hi_X8_isThorn_RX8 lk_X8_isThorn_31 tyX8_ok nmX8 rfl rfl rfl (Nat.le_of_ble_eq_true rfl) rfl dX8_isThorn_35 ?_
      refine go_aload0 C (pc := 38) dX8_isThorn_38 ?_
      refine go_get C (pc := 39) 25 (by decide) rfl rfl 7 (by decide) rfl rfl hi_X8_isThorn_RX8 lk_X8_isThorn_31 dX8_isThorn_39 ?_
      refine go_if_ne C (pc := 42) (tgt := 49) dX8_isThorn_42 (by decide) (fun h42 => ?_) (fun h42 => ?_)
      · refine go_iconst C (pc := 49) (v := 0) (by decide) dX8_isThorn_49 ?_
        have hv : cdT (nI n) th p0 p1 = 1 := by rw [cdT, if_pos (bneg h6), if_neg (by rw [bpos h14]; decide)]
        exact go_zret C hr dX8_isThorn_50 (by decide) ⟨by rw [hv]; rfl, by rw [hv]⟩
      · refine go_iconst C (pc := 45) (v := 1) (by decide) dX8_isThorn_45 ?_
        refine go_goto C (pc := 46) (tgt := 50) dX8_isThorn_46 (by decide) ?_
        exact absurd (show (1 : Int32) = 0 from h42) (by decide)

theorem yok_X8_throwing : yOK yX8_throwing 1 := by unfold yOK; decide +kernel
theorem hi_X8_throwing_RX8 : ∀ w ∈ wsX80, w ∈ wsX8_throwing := by decide +kernel
theorem lk_X8_throwing_31 : Cond.fieldLink RX8 31 "ThornCoresModel" "thrown" "I" ∈ wsX8_throwing := by decide +kernel
set_option maxRecDepth 20000 in
set_option maxHeartbeats 4000000 in
theorem c_X8_throwing {l : Launch} {D : va_G} {ad : Nat → Nat} {cI cL : ClassId} (hfl : l.flags = flags0) (hok : adOK ad) (μ : Mem) (p0 : Int32) : CtI l D ad cI cL yX8_throwing wsX8_throwing (RM 0 0) [.ref (ad 25), .int p0] μ (fun (r : Int32) (μ' : Mem) => r = 0 ∧ μ' = mset μ 25 (upd (μ 25) 7 (p0))) := by
  refine ct_i (cc := cX8_throwing) (maxL := 2) (own := RX8) .int hfl hok (by decide) rfl rfl rfl (Nat.le_of_ble_eq_true rfl) (fun p e s m below meth c C hr => ?_)
  refine go_lv (lv' := [some (.ref (ad 25)), some (.int p0)]) rfl ?_
  refine go_aload0 C (pc := 0) dX8_throwing_0 ?_
  refine go_iload1 C (pc := 1) dX8_throwing_1 ?_
  refine go_put C (pc := 2) 25 (by decide) rfl rfl 7 (by decide) rfl hi_X8_throwing_RX8 lk_X8_throwing_31 tyX8_ok nmX8 rfl rfl rfl (Nat.le_of_ble_eq_true rfl) rfl dX8_throwing_2 ?_
  refine go_iconst C (pc := 5) (v := 0) (by decide) dX8_throwing_5 ?_
  exact go_iret C hr dX8_throwing_6 (⟨rfl, rfl⟩)

theorem yok_X8_thrown : yOK yX8_thrown 0 := by unfold yOK; decide +kernel
theorem hi_X8_thrown_RX8 : ∀ w ∈ wsX80, w ∈ wsX8_thrown := by decide +kernel
theorem lk_X8_thrown_31 : Cond.fieldLink RX8 31 "ThornCoresModel" "thrown" "I" ∈ wsX8_thrown := by decide +kernel
set_option maxRecDepth 20000 in
set_option maxHeartbeats 4000000 in
theorem c_X8_thrown {l : Launch} {D : va_G} {ad : Nat → Nat} {cI cL : ClassId} (hfl : l.flags = flags0) (hok : adOK ad) (μ : Mem) : CtI l D ad cI cL yX8_thrown wsX8_thrown (RM 0 0) [.ref (ad 25)] μ (fun (r : Int32) (μ' : Mem) => r = μ 25 7 ∧ μ' = μ) := by
  refine ct_i (cc := cX8_thrown) (maxL := 1) (own := RX8) .int hfl hok (by decide) rfl rfl rfl (Nat.le_of_ble_eq_true rfl) (fun p e s m below meth c C hr => ?_)
  refine go_lv (lv' := [some (.ref (ad 25))]) rfl ?_
  refine go_aload0 C (pc := 0) dX8_thrown_0 ?_
  refine go_get C (pc := 1) 25 (by decide) rfl rfl 7 (by decide) rfl rfl hi_X8_thrown_RX8 lk_X8_thrown_31 dX8_thrown_1 ?_
  exact go_iret C hr dX8_thrown_4 (⟨rfl, rfl⟩)

def wthI (x p : Int32) : Int32 := (x &&& ((1 : Int32) <<< (p &&& 31) - 1)) ||| ((x >>> ((1 : Int32) &&& 31)) &&& (((1 : Int32) <<< (p &&& 31) - 1) ^^^ (-1)))
theorem yok_X8_without : yOK yX8_without 2 := by unfold yOK; decide +kernel
set_option maxRecDepth 20000 in
set_option maxHeartbeats 4000000 in
theorem c_X8_without {l : Launch} {D : va_G} {ad : Nat → Nat} {cI cL : ClassId} (hfl : l.flags = flags0) (hok : adOK ad) (μ : Mem) (x p0 : Int32) : CtI l D ad cI cL yX8_without wsX8_without (RM 0 0) [.int x, .int p0] μ (fun (r : Int32) (μ' : Mem) => r = wthI x p0 ∧ μ' = μ) := by
  refine ct_i (cc := cX8_without) (maxL := 3) (own := RX8) .int hfl hok (by decide) rfl rfl rfl (Nat.le_of_ble_eq_true rfl) (fun p e s m below meth c C hr => ?_)
  refine go_lv (lv' := [some (.int x), some (.int p0), none]) rfl ?_
  refine go_iconst C (pc := 0) (v := 1) (by decide) dX8_without_0 ?_
  refine go_iload1 C (pc := 1) dX8_without_1 ?_
  refine go_ishl C (pc := 2) dX8_without_2 ?_
  refine go_iconst C (pc := 3) (v := 1) (by decide) dX8_without_3 ?_
  refine go_isub C (pc := 4) dX8_without_4 ?_
  refine go_istore2 C (pc := 5) dX8_without_5 ?_
  refine go_iload0 C (pc := 6) dX8_without_6 ?_
  refine go_iload2 C (pc := 7) dX8_without_7 ?_
  refine go_iand C (pc := 8) dX8_without_8 ?_
  refine go_iload0 C (pc := 9) dX8_without_9 ?_
  refine go_iconst C (pc := 10) (v := 1) (by decide) dX8_without_10 ?_
  refine go_ishr C (pc := 11) dX8_without_11 ?_
  refine go_iload2 C (pc := 12) dX8_without_12 ?_
  refine go_iconst C (pc := 13) (v := -1) (by decide) dX8_without_13 ?_
  refine go_ixor C (pc := 14) dX8_without_14 ?_
  refine go_iand C (pc := 15) dX8_without_15 ?_
  refine go_ior C (pc := 16) dX8_without_16 ?_
  exact go_iret C hr dX8_without_17 (⟨rfl, rfl⟩)

theorem yok_X8_supported : yOK yX8_supported 2 := by unfold yOK; decide +kernel
theorem hi_X8_supported_RX8 : ∀ w ∈ wsX80, w ∈ wsX8_supported := by decide +kernel
theorem lk_X8_supported_28 : Cond.fieldLink RX8 28 "ThornCoresModel" "bound" "[I" ∈ wsX8_supported := by decide +kernel
set_option maxRecDepth 20000 in
set_option maxHeartbeats 4000000 in
theorem c_X8_supported {l : Launch} {D : va_G} {ad : Nat → Nat} {cI cL : ClassId} (hfl : l.flags = flags0) (hok : adOK ad) (μ : Mem) (i j : Nat) (hi : i < 16) (hj : j < 16) : CtI l D ad cI cL yX8_supported wsX8_supported (RM 1 22) [.ref (ad 25), .int (nI i), .int (nI j)] μ (fun (r : Int32) (μ' : Mem) => r = nI (ct (μ 32 i &&& μ 32 j)) ∧ μ' = μ) := by
  refine ct_i (cc := cX8_supported) (maxL := 3) (own := RX8) .int hfl hok (by decide) rfl rfl rfl (Nat.le_of_ble_eq_true rfl) (fun p e s m below meth c C hr => ?_)
  refine go_lv (lv' := [some (.ref (ad 25)), some (.int (nI i)), some (.int (nI j))]) rfl ?_
  refine go_aload0 C (pc := 0) dX8_supported_0 ?_
  refine go_get C (pc := 1) 25 (by decide) rfl rfl 10 (by decide) rfl rfl hi_X8_supported_RX8 lk_X8_supported_28 dX8_supported_1 ?_
  refine go_iload1 C (pc := 4) dX8_supported_4 ?_
  refine go_ialdN C (pc := 5) arr_32 (i := i) (by omega) dX8_supported_5 ?_
  refine go_aload0 C (pc := 6) dX8_supported_6 ?_
  refine go_get C (pc := 7) 25 (by decide) rfl rfl 10 (by decide) rfl rfl hi_X8_supported_RX8 lk_X8_supported_28 dX8_supported_7 ?_
  refine go_iload2 C (pc := 10) dX8_supported_10 ?_
  refine go_ialdN C (pc := 11) arr_32 (i := j) (by omega) dX8_supported_11 ?_
  refine go_iand C (pc := 12) dX8_supported_12 ?_
  refine go_ciS1 C (pc := 13) (c_X8_bits C.fl C.ok _ _ ) gX8_supported_X8_bits rfl yok_X8_bits ⟨rfl, rfl⟩ ⟨Nat.le_of_ble_eq_true rfl, Nat.le_of_ble_eq_true rfl⟩ (Nat.le_of_ble_eq_true rfl) ⟨Nat.zero_le _, Nat.zero_le _⟩ dX8_supported_13 (fun r1 μ1 hc1 => ?_)
  obtain ⟨rfl, hm1⟩ := hc1
  replace hm1 := hm1.symm
  subst hm1
  exact go_iret C hr dX8_supported_16 (⟨rfl, rfl⟩)

