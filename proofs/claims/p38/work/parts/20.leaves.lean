/-! ===== leaves: Row.at, Row.put, ThornCores.bit, in, bits, Integer.bitCount ===== -/
def b2i (b : Bool) : Int32 := if b then 1 else 0
theorem b2i_0 {b : Bool} : b2i b = 0 ↔ b = false := by cases b <;> decide
theorem b2i_01 (b : Bool) : b2i b = 0 ∨ b2i b = 1 := by cases b <;> decide
theorem b2i_t {b : Bool} (h : b = true) : b2i b = 1 := by subst h; rfl
theorem b2i_f {b : Bool} (h : b = false) : b2i b = 0 := by subst h; rfl
theorem b2i_inj {a b : Bool} (h : b2i a = b2i b) : a = b := by cases a <;> cases b <;> first | rfl | exact absurd h (by decide)
/-- cell k is a Row of n numbers -/
def isRow (k n : Nat) : Prop := k < 25 ∧ (∀ (ad : Nat → Nat) (cI cL : ClassId) (f : Nat → Int32), shp ad cI cL k f = .inr (3, [.ref (ad (k + 1))])) ∧ isArr (k + 1) n ∧ n < 2 ^ 31
theorem isRow.obj {k n : Nat} (h : isRow k n) : isObj k RX3 := ⟨h.1, 3, TX3, 1, rfl, fun _ _ _ _ => ⟨_, h.2.1 _ _ _ _⟩⟩
theorem row_2 : isRow 2 16 := ⟨by decide, fun _ _ _ _ => rfl, arr_3, by decide⟩
theorem row_5 : isRow 5 60 := ⟨by decide, fun _ _ _ _ => rfl, arr_6, by decide⟩
theorem row_8 : isRow 8 108 := ⟨by decide, fun _ _ _ _ => rfl, arr_9, by decide⟩
theorem row_10 : isRow 10 18 := ⟨by decide, fun _ _ _ _ => rfl, arr_11, by decide⟩
theorem row_13 : isRow 13 16 := ⟨by decide, fun _ _ _ _ => rfl, arr_14, by decide⟩
theorem row_16 : isRow 16 16 := ⟨by decide, fun _ _ _ _ => rfl, arr_17, by decide⟩
theorem row_18 : isRow 18 256 := ⟨by decide, fun _ _ _ _ => rfl, arr_19, by decide⟩
theorem row_21 : isRow 21 16 := ⟨by decide, fun _ _ _ _ => rfl, arr_22, by decide⟩
theorem row_23 : isRow 23 16 := ⟨by decide, fun _ _ _ _ => rfl, arr_24, by decide⟩
theorem vp_ok {i : Int32} {n : Nat} (hn : n < 2 ^ 31) (h1 : ¬ i < 0) (h2 : ¬ nI n ≤ i) : vp_in i n := by
  rw [vp_in_iff]
  rw [Int32.lt_iff_toInt_lt, Int32.toInt_zero] at h1
  rw [Int32.le_iff_toInt_le, nI_toInt hn] at h2
  omega
def rowAt (f : Nat → Int32) (n : Nat) (i : Int32) : Int32 := if i < 0 ∨ nI n ≤ i then 0 else f i.toNatClampNeg
def rowPut (f : Nat → Int32) (n : Nat) (i x : Int32) : Nat → Int32 := if i < 0 ∨ nI n ≤ i then f else upd f i.toNatClampNeg x
theorem mset_id (μ : Mem) (k : Nat) : mset μ k (μ k) = μ := by
  funext j
  unfold mset
  split
  · next h => rw [h]
  · rfl
theorem yok_X3_at : yOK yX3_at 1 := by unfold yOK; decide +kernel
theorem hi_X3_at_RX3 : ∀ w ∈ wsX30, w ∈ wsX3_at := by decide +kernel
theorem lk_X3_at_13 : Cond.fieldLink RX3 13 "ThornCores$Row" "cells" "[I" ∈ wsX3_at := by decide +kernel
set_option maxRecDepth 20000 in
set_option maxHeartbeats 4000000 in
theorem c_X3_at {l : Launch} {D : va_G} {ad : Nat → Nat} {cI cL : ClassId} (hfl : l.flags = flags0) (hok : adOK ad) (μ : Mem) (k n : Nat) (hrow : isRow k n) (i : Int32) : CtI l D ad cI cL yX3_at wsX3_at (RM 0 0) [.ref (ad k), .int i] μ (fun (r : Int32) (μ' : Mem) => r = rowAt (μ (k + 1)) n i ∧ μ' = μ) := by
  refine ct_i (cc := cX3_at) (maxL := 2) (own := RX3) .int hfl hok (by decide) rfl rfl rfl (Nat.le_of_ble_eq_true rfl) (fun p e s m below meth c C hr => ?_)
  refine go_lv (lv' := [some (.ref (ad k)), some (.int i)]) rfl ?_
  have hlt_k := hrow.1
  have hsh_k := hrow.2.1
  have har_ka := hrow.2.2.1
  refine go_iload1 C (pc := 0) dX3_at_0 ?_
  refine go_if_lt C (pc := 1) (tgt := 22) dX3_at_1 (by decide) (fun h1 => ?_) (fun h1 => ?_)
  · refine go_iconst C (pc := 22) (v := 0) (by decide) dX3_at_22 ?_
    exact go_iret C hr dX3_at_23 ⟨by rw [rowAt, if_pos (Or.inl h1)], rfl⟩
  · refine go_iload1 C (pc := 4) dX3_at_4 ?_
    refine go_aload0 C (pc := 5) dX3_at_5 ?_
    refine go_get C (pc := 6) k hlt_k (hsh_k _ _ _ _) rfl 0 (by decide) rfl rfl hi_X3_at_RX3 lk_X3_at_13 dX3_at_6 ?_
    refine go_alen C (pc := 9) har_ka dX3_at_9 ?_
    refine go_icmp_ge C (pc := 10) (tgt := 22) dX3_at_10 (by decide) (fun h10 => ?_) (fun h10 => ?_)
    · refine go_iconst C (pc := 22) (v := 0) (by decide) dX3_at_22 ?_
      exact go_iret C hr dX3_at_23 ⟨by rw [rowAt, if_pos (Or.inr h10)], rfl⟩
    · refine go_aload0 C (pc := 13) dX3_at_13 ?_
      refine go_get C (pc := 14) k hlt_k (hsh_k _ _ _ _) rfl 0 (by decide) rfl rfl hi_X3_at_RX3 lk_X3_at_13 dX3_at_14 ?_
      refine go_iload1 C (pc := 17) dX3_at_17 ?_
      refine go_iald C (pc := 18) har_ka (vp_ok hrow.2.2.2 h1 h10) dX3_at_18 ?_
      refine go_goto C (pc := 19) (tgt := 23) dX3_at_19 (by decide) ?_
      exact go_iret C hr dX3_at_23 ⟨by rw [rowAt, if_neg (fun h => h.elim h1 h10)], rfl⟩

theorem yok_X3_put : yOK yX3_put 2 := by unfold yOK; decide +kernel
theorem hi_X3_put_RX3 : ∀ w ∈ wsX30, w ∈ wsX3_put := by decide +kernel
theorem lk_X3_put_13 : Cond.fieldLink RX3 13 "ThornCores$Row" "cells" "[I" ∈ wsX3_put := by decide +kernel
set_option maxRecDepth 20000 in
set_option maxHeartbeats 4000000 in
theorem c_X3_put {l : Launch} {D : va_G} {ad : Nat → Nat} {cI cL : ClassId} (hfl : l.flags = flags0) (hok : adOK ad) (μ : Mem) (k n : Nat) (hrow : isRow k n) (i x : Int32) : CtV l D ad cI cL yX3_put wsX3_put (RM 0 0) [.ref (ad k), .int i, .int x] μ (fun (μ' : Mem) => μ' = mset μ (k + 1) (rowPut (μ (k + 1)) n i x)) := by
  refine ct_v (cc := cX3_put) (maxL := 3) (own := RX3) hfl hok (by decide) rfl rfl rfl (Nat.le_of_ble_eq_true rfl) (fun p e s m below meth c C hr => ?_)
  refine go_lv (lv' := [some (.ref (ad k)), some (.int i), some (.int x)]) rfl ?_
  have hlt_k := hrow.1
  have hsh_k := hrow.2.1
  have har_ka := hrow.2.2.1
  refine go_iload1 C (pc := 0) dX3_put_0 ?_
  refine go_if_lt C (pc := 1) (tgt := 20) dX3_put_1 (by decide) (fun h1 => ?_) (fun h1 => ?_)
  · exact go_vret C hr dX3_put_20 (by rw [rowPut, if_pos (Or.inl h1), mset_id])
  · refine go_iload1 C (pc := 4) dX3_put_4 ?_
    refine go_aload0 C (pc := 5) dX3_put_5 ?_
    refine go_get C (pc := 6) k hlt_k (hsh_k _ _ _ _) rfl 0 (by decide) rfl rfl hi_X3_put_RX3 lk_X3_put_13 dX3_put_6 ?_
    refine go_alen C (pc := 9) har_ka dX3_put_9 ?_
    refine go_icmp_ge C (pc := 10) (tgt := 20) dX3_put_10 (by decide) (fun h10 => ?_) (fun h10 => ?_)
    · exact go_vret C hr dX3_put_20 (by rw [rowPut, if_pos (Or.inr h10), mset_id])
    · refine go_aload0 C (pc := 13) dX3_put_13 ?_
      refine go_get C (pc := 14) k hlt_k (hsh_k _ _ _ _) rfl 0 (by decide) rfl rfl hi_X3_put_RX3 lk_X3_put_13 dX3_put_14 ?_
      refine go_iload1 C (pc := 17) dX3_put_17 ?_
      refine go_iload2 C (pc := 18) dX3_put_18 ?_
      refine go_iast C (pc := 19) har_ka (vp_ok hrow.2.2.2 h1 h10) dX3_put_19 ?_
      exact go_vret C hr dX3_put_20 (by rw [rowPut, if_neg (fun h => h.elim h1 h10)])

def bitI (p : Int32) : Int32 := 1 <<< (p &&& 31)
def inb (x p : Int32) : Bool := !(((x.toUInt32 >>> (p.toUInt32 &&& Int32.toUInt32 31)).toInt32 &&& 1) == 0)
theorem yok_X7_bit : yOK yX7_bit 1 := by unfold yOK; decide +kernel
set_option maxRecDepth 20000 in
set_option maxHeartbeats 4000000 in
theorem c_X7_bit {l : Launch} {D : va_G} {ad : Nat → Nat} {cI cL : ClassId} (hfl : l.flags = flags0) (hok : adOK ad) (μ : Mem) (p0 : Int32) : CtI l D ad cI cL yX7_bit wsX7_bit (RM 0 0) [.int p0] μ (fun (r : Int32) (μ' : Mem) => r = bitI p0 ∧ μ' = μ) := by
  refine ct_i (cc := cX7_bit) (maxL := 1) (own := RX7) .int hfl hok (by decide) rfl rfl rfl (Nat.le_of_ble_eq_true rfl) (fun p e s m below meth c C hr => ?_)
  refine go_lv (lv' := [some (.int p0)]) rfl ?_
  refine go_iconst C (pc := 0) (v := 1) (by decide) dX7_bit_0 ?_
  refine go_iload0 C (pc := 1) dX7_bit_1 ?_
  refine go_ishl C (pc := 2) dX7_bit_2 ?_
  exact go_iret C hr dX7_bit_3 ⟨rfl, rfl⟩

theorem yok_X7_in : yOK yX7_in 2 := by unfold yOK; decide +kernel
set_option maxRecDepth 20000 in
set_option maxHeartbeats 4000000 in
theorem c_X7_in {l : Launch} {D : va_G} {ad : Nat → Nat} {cI cL : ClassId} (hfl : l.flags = flags0) (hok : adOK ad) (μ : Mem) (p0 p1 : Int32) : CtI l D ad cI cL yX7_in wsX7_in (RM 0 0) [.int p0, .int p1] μ (fun (r : Int32) (μ' : Mem) => r = b2i (inb p0 p1) ∧ μ' = μ) := by
  refine ct_i (cc := cX7_in) (maxL := 2) (own := RX7) .boolean hfl hok (by decide) rfl rfl rfl (Nat.le_of_ble_eq_true rfl) (fun p e s m below meth c C hr => ?_)
  refine go_lv (lv' := [some (.int p0), some (.int p1)]) rfl ?_
  refine go_iload0 C (pc := 0) dX7_in_0 ?_
  refine go_iload1 C (pc := 1) dX7_in_1 ?_
  refine go_iushr C (pc := 2) dX7_in_2 ?_
  refine go_iconst C (pc := 3) (v := 1) (by decide) dX7_in_3 ?_
  refine go_iand C (pc := 4) dX7_in_4 ?_
  refine go_if_eq C (pc := 5) (tgt := 12) dX7_in_5 (by decide) (fun h5 => ?_) (fun h5 => ?_)
  · refine go_iconst C (pc := 12) (v := 0) (by decide) dX7_in_12 ?_
    exact go_zret C hr dX7_in_13 (by decide) ⟨by simp_all [inb, b2i], rfl⟩
  · refine go_iconst C (pc := 8) (v := 1) (by decide) dX7_in_8 ?_
    refine go_goto C (pc := 9) (tgt := 13) dX7_in_9 (by decide) ?_
    exact go_zret C hr dX7_in_13 (by decide) ⟨by simp_all [inb, b2i], rfl⟩

def bc1 (i : Int32) : Int32 := i - ((i.toUInt32 >>> ((1 : Int32).toUInt32 &&& Int32.toUInt32 31)).toInt32 &&& 1431655765)
def bc2 (i : Int32) : Int32 := (i &&& 858993459) + ((i.toUInt32 >>> ((2 : Int32).toUInt32 &&& Int32.toUInt32 31)).toInt32 &&& 858993459)
def bc3 (i : Int32) : Int32 := (i + (i.toUInt32 >>> ((4 : Int32).toUInt32 &&& Int32.toUInt32 31)).toInt32) &&& 252645135
def bc4 (i : Int32) : Int32 := i + (i.toUInt32 >>> ((8 : Int32).toUInt32 &&& Int32.toUInt32 31)).toInt32
def bc5 (i : Int32) : Int32 := i + (i.toUInt32 >>> ((16 : Int32).toUInt32 &&& Int32.toUInt32 31)).toInt32
def bcI (i : Int32) : Int32 := bc5 (bc4 (bc3 (bc2 (bc1 i)))) &&& 63
theorem yok_J6_bitCount_0f7a4 : yOK yJ6_bitCount_0f7a4 1 := by unfold yOK; decide +kernel
theorem lw_J6_bitCount_0f7a4_k265 : Cond.constant RJ6 265 (1431655765) ∈ wsJ6_bitCount_0f7a4 := by decide +kernel
theorem lw_J6_bitCount_0f7a4_k266 : Cond.constant RJ6 266 (858993459) ∈ wsJ6_bitCount_0f7a4 := by decide +kernel
theorem lw_J6_bitCount_0f7a4_k267 : Cond.constant RJ6 267 (252645135) ∈ wsJ6_bitCount_0f7a4 := by decide +kernel
set_option maxRecDepth 20000 in
set_option maxHeartbeats 4000000 in
theorem c_J6_bitCount_0f7a4 {l : Launch} {D : va_G} {ad : Nat → Nat} {cI cL : ClassId} (hfl : l.flags = flags0) (hok : adOK ad) (μ : Mem) (p0 : Int32) : CtI l D ad cI cL yJ6_bitCount_0f7a4 wsJ6_bitCount_0f7a4 (RM 0 0) [.int p0] μ (fun (r : Int32) (μ' : Mem) => r = bcI p0 ∧ μ' = μ) := by
  refine ct_i (cc := cJ6_bitCount_0f7a4) (maxL := 1) (own := RJ6) .int hfl hok (by decide) rfl rfl rfl (Nat.le_of_ble_eq_true rfl) (fun p e s m below meth c C hr => ?_)
  refine go_lv (lv' := [some (.int p0)]) rfl ?_
  refine go_iload0 C (pc := 0) dJ6_bitCount_0f7a4_0 ?_
  refine go_iload0 C (pc := 1) dJ6_bitCount_0f7a4_1 ?_
  refine go_iconst C (pc := 2) (v := 1) (by decide) dJ6_bitCount_0f7a4_2 ?_
  refine go_iushr C (pc := 3) dJ6_bitCount_0f7a4_3 ?_
  refine go_ldcw C (pc := 4) lw_J6_bitCount_0f7a4_k265 dJ6_bitCount_0f7a4_4 ?_
  refine go_iand C (pc := 7) dJ6_bitCount_0f7a4_7 ?_
  refine go_isub C (pc := 8) dJ6_bitCount_0f7a4_8 ?_
  refine go_top (y := bc1 p0) rfl ?_
  refine go_istore0 C (pc := 9) dJ6_bitCount_0f7a4_9 ?_
  refine go_iload0 C (pc := 10) dJ6_bitCount_0f7a4_10 ?_
  refine go_ldcw C (pc := 11) lw_J6_bitCount_0f7a4_k266 dJ6_bitCount_0f7a4_11 ?_
  refine go_iand C (pc := 14) dJ6_bitCount_0f7a4_14 ?_
  refine go_iload0 C (pc := 15) dJ6_bitCount_0f7a4_15 ?_
  refine go_iconst C (pc := 16) (v := 2) (by decide) dJ6_bitCount_0f7a4_16 ?_
  refine go_iushr C (pc := 17) dJ6_bitCount_0f7a4_17 ?_
  refine go_ldcw C (pc := 18) lw_J6_bitCount_0f7a4_k266 dJ6_bitCount_0f7a4_18 ?_
  refine go_iand C (pc := 21) dJ6_bitCount_0f7a4_21 ?_
  refine go_iadd C (pc := 22) dJ6_bitCount_0f7a4_22 ?_
  refine go_top (y := bc2 (bc1 p0)) rfl ?_
  refine go_istore0 C (pc := 23) dJ6_bitCount_0f7a4_23 ?_
  refine go_iload0 C (pc := 24) dJ6_bitCount_0f7a4_24 ?_
  refine go_iload0 C (pc := 25) dJ6_bitCount_0f7a4_25 ?_
  refine go_iconst C (pc := 26) (v := 4) (by decide) dJ6_bitCount_0f7a4_26 ?_
  refine go_iushr C (pc := 27) dJ6_bitCount_0f7a4_27 ?_
  refine go_iadd C (pc := 28) dJ6_bitCount_0f7a4_28 ?_
  refine go_ldcw C (pc := 29) lw_J6_bitCount_0f7a4_k267 dJ6_bitCount_0f7a4_29 ?_
  refine go_iand C (pc := 32) dJ6_bitCount_0f7a4_32 ?_
  refine go_top (y := bc3 (bc2 (bc1 p0))) rfl ?_
  refine go_istore0 C (pc := 33) dJ6_bitCount_0f7a4_33 ?_
  refine go_iload0 C (pc := 34) dJ6_bitCount_0f7a4_34 ?_
  refine go_iload0 C (pc := 35) dJ6_bitCount_0f7a4_35 ?_
  refine go_bipush C (pc := 36) (v := 8) (by decide) dJ6_bitCount_0f7a4_36 ?_
  refine go_iushr C (pc := 38) dJ6_bitCount_0f7a4_38 ?_
  refine go_iadd C (pc := 39) dJ6_bitCount_0f7a4_39 ?_
  refine go_top (y := bc4 (bc3 (bc2 (bc1 p0)))) rfl ?_
  refine go_istore0 C (pc := 40) dJ6_bitCount_0f7a4_40 ?_
  refine go_iload0 C (pc := 41) dJ6_bitCount_0f7a4_41 ?_
  refine go_iload0 C (pc := 42) dJ6_bitCount_0f7a4_42 ?_
  refine go_bipush C (pc := 43) (v := 16) (by decide) dJ6_bitCount_0f7a4_43 ?_
  refine go_iushr C (pc := 45) dJ6_bitCount_0f7a4_45 ?_
  refine go_iadd C (pc := 46) dJ6_bitCount_0f7a4_46 ?_
  refine go_top (y := bc5 (bc4 (bc3 (bc2 (bc1 p0))))) rfl ?_
  refine go_istore0 C (pc := 47) dJ6_bitCount_0f7a4_47 ?_
  refine go_iload0 C (pc := 48) dJ6_bitCount_0f7a4_48 ?_
  refine go_bipush C (pc := 49) (v := 63) (by decide) dJ6_bitCount_0f7a4_49 ?_
  refine go_iand C (pc := 51) dJ6_bitCount_0f7a4_51 ?_
  exact go_iret C hr dJ6_bitCount_0f7a4_52 ⟨rfl, rfl⟩

theorem yok_X7_bits : yOK yX7_bits 1 := by unfold yOK; decide +kernel
set_option maxRecDepth 20000 in
set_option maxHeartbeats 4000000 in
theorem c_X7_bits {l : Launch} {D : va_G} {ad : Nat → Nat} {cI cL : ClassId} (hfl : l.flags = flags0) (hok : adOK ad) (μ : Mem) (p0 : Int32) : CtI l D ad cI cL yX7_bits wsX7_bits (RM 1 20) [.int p0] μ (fun (r : Int32) (μ' : Mem) => r = bcI p0 ∧ μ' = μ) := by
  refine ct_i (cc := cX7_bits) (maxL := 1) (own := RX7) .int hfl hok (by decide) rfl rfl rfl (Nat.le_of_ble_eq_true rfl) (fun p e s m below meth c C hr => ?_)
  refine go_lv (lv' := [some (.int p0)]) rfl ?_
  refine go_iload0 C (pc := 0) dX7_bits_0 ?_
  refine go_ciS1 C (pc := 1) (c_J6_bitCount_0f7a4 C.fl C.ok _ _ ) gX7_bits_J6_bitCount_0f7a4 rfl yok_J6_bitCount_0f7a4 ⟨rfl, rfl⟩ ⟨Nat.le_of_ble_eq_true rfl, Nat.le_of_ble_eq_true rfl⟩ (Nat.le_of_ble_eq_true rfl) ⟨Nat.zero_le _, Nat.zero_le _⟩ dX7_bits_1 (fun r1 μ1 hc1 => ?_)
  obtain ⟨rfl, hm1⟩ := hc1
  replace hm1 := hm1.symm
  subst hm1
  exact go_iret C hr dX7_bits_4 ⟨rfl, rfl⟩

