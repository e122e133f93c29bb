set_option maxRecDepth 20000 in
set_option maxHeartbeats 4000000 in
theorem cs_12 {p : Program} {l : Launch} {e : Env} {s : State} {m : MethodId} {below : List Frame} {meth : Method} {c : Code} {cells slots : Nat} {Q : State → Prop} {D : va_G} {ad : Nat → Nat} {cI cL : ClassId} {b L : Nat} {xs : Nat → Int32} {μ : Mem} (CL : CxL p l s m b meth c D ad cI cL L xs) {t : Nat} (ht : 3 * t + 2 < L) (hcs : cells + 4 ≤ room_1.cells ∧ slots + 24 ≤ room_1.slots) (hI : Inv μ)
    (K : ∀ μ', Inv μ' → Go p l e room_1 s m #[Value.ref b] below meth c (cells + 4) (slots + 24) Q (AL s) D ad cI cL 9 1737 (lvN b ad t) [] μ') : Go p l e room_1 s m #[Value.ref b] below meth c cells slots Q (AL s) D ad cI cL 9 720 (lvN b ad t) [] μ := by
  obtain ⟨n, q, h, w, bs, H⟩ := hI
  have C := CL.1
  have hfl := C.fl
  have hok := C.ok
  refine go_lv (lv' := [some (.ref b), some (.ref (ad 0)), some (.ref (ad 25)), some (.ref (ad 33)), some (.int (nI (3 * t))), none, none, none, none]) rfl ?_
  refine go_aload1 C (pc := 720) dL_law_720 ?_
  refine go_aload3 C (pc := 721) dL_law_721 ?_
  refine go_ciL C CL.2.1 (pc := 722) (As := [.ref (ad 0), .ref (ad 33)]) (st := []) (h_restoreSnapshot hfl hok (c_X7_restoreSnapshot hfl hok μ bs H.s0 q h H.ch) (fun E hx => hx.2)) rfl rfl gL_law_L_restoreSnapshot rfl yok_L_restoreSnapshot ⟨rfl, rfl⟩ ⟨Nat.le_of_ble_eq_true rfl, Nat.le_of_ble_eq_true rfl⟩ (Nat.le_of_ble_eq_true rfl) hcs dL_law_722 (fun r5 μ2 hc => ?_)
  have hs : same μ μ2 CC := hc.cc (fun v μ9 hf => by obtain ⟨-, -, -, -, -, gs⟩ := hf; exact gs.mono (by decide))
  refine go_istore5 C (pc := 725) dL_law_725 ?_
  refine go_aload2 C (pc := 727) dL_law_727 ?_
  refine go_ciV0 C (pc := 728) obj_25 (c_X8_restoreSnapshot C.fl C.ok μ2 bs (H.s4 hs) (H.mo hs) H.2.1 (H.mh hs)) gL_law_X8_restoreSnapshot rfl rfl yok_X8_restoreSnapshot ⟨rfl, rfl⟩ ⟨Nat.le_of_ble_eq_true rfl, Nat.le_of_ble_eq_true rfl⟩ (Nat.le_of_ble_eq_true rfl) hcs dL_law_728 (fun r6 μ3 hm => ?_)
  refine go_istore6 C (pc := 731) dL_law_731 ?_
  obtain ⟨t1, t2, t3⟩ : TailOK r5 r6 μ3 := m_restoreSnapshot H hs hc hm
  refine go_aload2 C (pc := 733) dL_law_733 ?_
  refine go_ciV0 C (pc := 734) obj_25 (c_X8_thrown C.fl C.ok μ3) gL_law_X8_thrown rfl rfl yok_X8_thrown ⟨rfl, rfl⟩ ⟨Nat.le_of_ble_eq_true rfl, Nat.le_of_ble_eq_true rfl⟩ (Nat.le_of_ble_eq_true rfl) hcs dL_law_734 (fun r7 μ4 h7 => ?_)
  obtain ⟨e7, e8⟩ := h7
  subst e7
  refine go_mem e8 ?_
  refine go_iload5 C (pc := 737) dL_law_737 ?_
  refine go_icmp_eq C (pc := 739) (tgt := 744) dL_law_739 (by decide) (fun _ => ?_) (fun z => absurd t1 z)
  refine go_iload5 C (pc := 744) dL_law_744 ?_
  have fin : Go p l e room_1 s m #[Value.ref b] below meth c (cells + 4) (slots + 24) Q (AL s) D ad cI cL 9 761 [some (.ref b), some (.ref (ad 0)), some (.ref (ad 25)), some (.ref (ad 33)), some (.int (nI (3 * t))), some (.int r5), some (.int r6), none, none] [] μ3 := by
    refine go_goto C (pc := 761) (tgt := 1737) dL_law_761 (by decide) ?_
    exact go_drop5 (go_drop6 (K μ3 t3))
  refine go_if_ne C (pc := 746) (tgt := 761) dL_law_746 (by decide) (fun _ => fin) (fun z => ?_)
  refine go_aload3 C (pc := 749) dL_law_749 ?_
  refine go_iconst C (pc := 750) (v := 0) (by decide) dL_law_750 ?_
  refine go_laldO C (pc := 751) dL_law_751 ?_
  refine go_long (congrArg Int32.toInt64 (t2 z)) ?_
  refine go_iload6 C (pc := 752) dL_law_752 ?_
  refine go_i2l C (pc := 754) dL_law_754 ?_
  refine go_lcmp C (pc := 755) dL_law_755 ?_
  exact go_if_eq C (pc := 756) (tgt := 761) dL_law_756 (by decide) (fun _ => fin) (fun y => absurd ((lg_cmp_eq _ _).mpr rfl) y)
set_option maxRecDepth 20000 in
set_option maxHeartbeats 4000000 in
theorem cs_13 {p : Program} {l : Launch} {e : Env} {s : State} {m : MethodId} {below : List Frame} {meth : Method} {c : Code} {cells slots : Nat} {Q : State → Prop} {D : va_G} {ad : Nat → Nat} {cI cL : ClassId} {b L : Nat} {xs : Nat → Int32} {μ : Mem} (CL : CxL p l s m b meth c D ad cI cL L xs) {t : Nat} (ht : 3 * t + 2 < L) (hcs : cells + 4 ≤ room_1.cells ∧ slots + 24 ≤ room_1.slots) (hI : Inv μ)
    (K : ∀ μ', Inv μ' → Go p l e room_1 s m #[Value.ref b] below meth c (cells + 4) (slots + 24) Q (AL s) D ad cI cL 9 1737 (lvN b ad t) [] μ') : Go p l e room_1 s m #[Value.ref b] below meth c cells slots Q (AL s) D ad cI cL 9 764 (lvN b ad t) [] μ := by
  obtain ⟨n, q, h, w, bs, H⟩ := hI
  have C := CL.1
  have hfl := C.fl
  have hok := C.ok
  refine go_lv (lv' := [some (.ref b), some (.ref (ad 0)), some (.ref (ad 25)), some (.ref (ad 33)), some (.int (nI (3 * t))), none, none, none, none]) rfl ?_
  refine go_widen (k := cells + 4) (n := slots + 24) (Nat.le_add_right _ _) (Nat.le_add_right _ _) ?_
  refine go_aload1 C (pc := 764) dL_law_764 ?_
  refine go_ciV0 C (pc := 765) obj_0 (c_X7_plantCount C.fl C.ok μ) gL_law_X7_plantCount rfl rfl yok_X7_plantCount ⟨rfl, rfl⟩ ⟨Nat.le_of_ble_eq_true rfl, Nat.le_of_ble_eq_true rfl⟩ (Nat.le_of_ble_eq_true rfl) hcs dL_law_765 (fun r5 μ2 hc => ?_)
  have hq : same μ μ2 SC := by rw [hc.2]; exact same.rf
  have hs : same μ μ2 CC := hq.mono (by decide)
  refine go_aload2 C (pc := 768) dL_law_768 ?_
  refine go_ciV0 C (pc := 769) obj_25 (c_X8_plantCount C.fl C.ok μ2 (H.mo hs) H.2.1) gL_law_X8_plantCount rfl rfl yok_X8_plantCount ⟨rfl, rfl⟩ ⟨Nat.le_of_ble_eq_true rfl, Nat.le_of_ble_eq_true rfl⟩ (Nat.le_of_ble_eq_true rfl) hcs dL_law_769 (fun r6 μ3 hm => ?_)
  have t2 : r5 = r6 := by rw [hc.1, hm.1, H.1]
  have t3 : Inv μ3 := inv_q H hq hm.2.2 (by decide)
  exact go_icmp_eq C (pc := 772) (tgt := 1737) dL_law_772 (by decide) (fun _ => K μ3 t3) (fun z => absurd t2 z)
set_option maxRecDepth 20000 in
set_option maxHeartbeats 4000000 in
theorem cs_14 {p : Program} {l : Launch} {e : Env} {s : State} {m : MethodId} {below : List Frame} {meth : Method} {c : Code} {cells slots : Nat} {Q : State → Prop} {D : va_G} {ad : Nat → Nat} {cI cL : ClassId} {b L : Nat} {xs : Nat → Int32} {μ : Mem} (CL : CxL p l s m b meth c D ad cI cL L xs) {t : Nat} (ht : 3 * t + 2 < L) (hcs : cells + 4 ≤ room_1.cells ∧ slots + 24 ≤ room_1.slots) (hI : Inv μ)
    (K : ∀ μ', Inv μ' → Go p l e room_1 s m #[Value.ref b] below meth c (cells + 4) (slots + 24) Q (AL s) D ad cI cL 9 1737 (lvN b ad t) [] μ') : Go p l e room_1 s m #[Value.ref b] below meth c cells slots Q (AL s) D ad cI cL 9 777 (lvN b ad t) [] μ := by
  obtain ⟨n, q, h, w, bs, H⟩ := hI
  have C := CL.1
  have hfl := C.fl
  have hok := C.ok
  refine go_lv (lv' := [some (.ref b), some (.ref (ad 0)), some (.ref (ad 25)), some (.ref (ad 33)), some (.int (nI (3 * t))), none, none, none, none]) rfl ?_
  refine go_widen (k := cells + 4) (n := slots + 24) (Nat.le_add_right _ _) (Nat.le_add_right _ _) ?_
  refine go_aload1 C (pc := 777) dL_law_777 ?_
  refine go_ciV0 C (pc := 778) obj_0 (c_X7_thornCount C.fl C.ok μ n H.2.1.1 H.1) gL_law_X7_thornCount rfl rfl yok_X7_thornCount ⟨rfl, rfl⟩ ⟨Nat.le_of_ble_eq_true rfl, Nat.le_of_ble_eq_true rfl⟩ (Nat.le_of_ble_eq_true rfl) hcs dL_law_778 (fun r5 μ2 hc => ?_)
  have hq : same μ μ2 SC := by rw [hc.2]; exact same.rf
  have hs : same μ μ2 CC := hq.mono (by decide)
  refine go_aload2 C (pc := 781) dL_law_781 ?_
  refine go_ciV0 C (pc := 782) obj_25 (c_X8_thornCount C.fl C.ok μ2 (H.mo hs) H.2.1) gL_law_X8_thornCount rfl rfl yok_X8_thornCount ⟨rfl, rfl⟩ ⟨Nat.le_of_ble_eq_true rfl, Nat.le_of_ble_eq_true rfl⟩ (Nat.le_of_ble_eq_true rfl) hcs dL_law_782 (fun r6 μ3 hm => ?_)
  have t2 : r5 = r6 := hc.1.trans hm.1.symm
  have t3 : Inv μ3 := inv_q H hq hm.2.2 (by decide)
  exact go_icmp_eq C (pc := 785) (tgt := 1737) dL_law_785 (by decide) (fun _ => K μ3 t3) (fun z => absurd t2 z)
set_option maxRecDepth 20000 in
set_option maxHeartbeats 4000000 in
theorem cs_15 {p : Program} {l : Launch} {e : Env} {s : State} {m : MethodId} {below : List Frame} {meth : Method} {c : Code} {cells slots : Nat} {Q : State → Prop} {D : va_G} {ad : Nat → Nat} {cI cL : ClassId} {b L : Nat} {xs : Nat → Int32} {μ : Mem} (CL : CxL p l s m b meth c D ad cI cL L xs) {t : Nat} (ht : 3 * t + 2 < L) (hcs : cells + 4 ≤ room_1.cells ∧ slots + 24 ≤ room_1.slots) (hI : Inv μ)
    (K : ∀ μ', Inv μ' → Go p l e room_1 s m #[Value.ref b] below meth c (cells + 4) (slots + 24) Q (AL s) D ad cI cL 9 1737 (lvN b ad t) [] μ') : Go p l e room_1 s m #[Value.ref b] below meth c cells slots Q (AL s) D ad cI cL 9 790 (lvN b ad t) [] μ := by
  obtain ⟨n, q, h, w, bs, H⟩ := hI
  have C := CL.1
  have hfl := C.fl
  have hok := C.ok
  refine go_lv (lv' := [some (.ref b), some (.ref (ad 0)), some (.ref (ad 25)), some (.ref (ad 33)), some (.int (nI (3 * t))), none, none, none, none]) rfl ?_
  refine go_aload1 C (pc := 790) dL_law_790 ?_
  refine go_aload0 C (pc := 791) dL_law_791 ?_
  refine go_iload4 C (pc := 792) dL_law_792 ?_
  refine go_iconst C (pc := 794) (v := 1) (by decide) dL_law_794 ?_
  refine go_iadd C (pc := 795) dL_law_795 ?_
  refine go_sld CL (pc := 796) (j := 3 * t + 1) (nI_3 t) (by omega) dL_law_796 ?_
  refine go_aload3 C (pc := 797) dL_law_797 ?_
  refine go_ciL C CL.2.1 (pc := 798) (As := [.ref (ad 0), .int (xs (3 * t + 1)), .ref (ad 33)]) (st := []) (h_neighbors hfl hok (xs (3 * t + 1)) (c_X7_neighbors hfl hok μ (xs (3 * t + 1)) H.1 H.2.1) (fun E hx => (dem1_E hx).2)) rfl rfl gL_law_L_neighbors rfl yok_L_neighbors ⟨rfl, rfl⟩ ⟨Nat.le_of_ble_eq_true rfl, Nat.le_of_ble_eq_true rfl⟩ (Nat.le_of_ble_eq_true rfl) hcs dL_law_798 (fun r5 μ2 hc => ?_)
  have hs : same μ μ2 CC := hc.cc (fun v μ9 hf => by obtain ⟨_, -, -, -, gs⟩ := hf; rw [gs]; exact same.rf)
  refine go_istore5 C (pc := 801) dL_law_801 ?_
  refine go_aload2 C (pc := 803) dL_law_803 ?_
  refine go_aload0 C (pc := 804) dL_law_804 ?_
  refine go_iload4 C (pc := 805) dL_law_805 ?_
  refine go_iconst C (pc := 807) (v := 1) (by decide) dL_law_807 ?_
  refine go_iadd C (pc := 808) dL_law_808 ?_
  refine go_sld CL (pc := 809) (j := 3 * t + 1) (nI_3 t) (by omega) dL_law_809 ?_
  refine go_ciV1 C (pc := 810) obj_25 (c_X8_neighbors C.fl C.ok μ2 (xs (3 * t + 1)) (H.mo hs) H.2.1) gL_law_X8_neighbors rfl rfl yok_X8_neighbors ⟨rfl, rfl⟩ ⟨Nat.le_of_ble_eq_true rfl, Nat.le_of_ble_eq_true rfl⟩ (Nat.le_of_ble_eq_true rfl) hcs dL_law_810 (fun r6 μ3 hm => ?_)
  refine go_istore6 C (pc := 813) dL_law_813 ?_
  obtain ⟨t1, t2, t3⟩ : TailOK r5 r6 μ3 := q_1 (P := (fun r j => r = μ 3 j)) H (fun a b j x y => x.trans y.symm) (fun v μ9 hf => by obtain ⟨j, a1, a2, a3, gs⟩ := hf; exact ⟨j, a1, a2, a3, by rw [gs]; exact same.rf⟩) hc hm (by decide)
  refine go_aload2 C (pc := 815) dL_law_815 ?_
  refine go_ciV0 C (pc := 816) obj_25 (c_X8_thrown C.fl C.ok μ3) gL_law_X8_thrown rfl rfl yok_X8_thrown ⟨rfl, rfl⟩ ⟨Nat.le_of_ble_eq_true rfl, Nat.le_of_ble_eq_true rfl⟩ (Nat.le_of_ble_eq_true rfl) hcs dL_law_816 (fun r7 μ4 h7 => ?_)
  obtain ⟨e7, e8⟩ := h7
  subst e7
  refine go_mem e8 ?_
  refine go_iload5 C (pc := 819) dL_law_819 ?_
  refine go_icmp_eq C (pc := 821) (tgt := 826) dL_law_821 (by decide) (fun _ => ?_) (fun z => absurd t1 z)
  refine go_iload5 C (pc := 826) dL_law_826 ?_
  have fin : Go p l e room_1 s m #[Value.ref b] below meth c (cells + 4) (slots + 24) Q (AL s) D ad cI cL 9 843 [some (.ref b), some (.ref (ad 0)), some (.ref (ad 25)), some (.ref (ad 33)), some (.int (nI (3 * t))), some (.int r5), some (.int r6), none, none] [] μ3 := by
    refine go_goto C (pc := 843) (tgt := 1737) dL_law_843 (by decide) ?_
    exact go_drop5 (go_drop6 (K μ3 t3))
  refine go_if_ne C (pc := 828) (tgt := 843) dL_law_828 (by decide) (fun _ => fin) (fun z => ?_)
  refine go_aload3 C (pc := 831) dL_law_831 ?_
  refine go_iconst C (pc := 832) (v := 0) (by decide) dL_law_832 ?_
  refine go_laldO C (pc := 833) dL_law_833 ?_
  refine go_long (congrArg Int32.toInt64 (t2 z)) ?_
  refine go_iload6 C (pc := 834) dL_law_834 ?_
  refine go_i2l C (pc := 836) dL_law_836 ?_
  refine go_lcmp C (pc := 837) dL_law_837 ?_
  exact go_if_eq C (pc := 838) (tgt := 843) dL_law_838 (by decide) (fun _ => fin) (fun y => absurd ((lg_cmp_eq _ _).mpr rfl) y)
set_option maxRecDepth 20000 in
set_option maxHeartbeats 4000000 in
theorem cs_16 {p : Program} {l : Launch} {e : Env} {s : State} {m : MethodId} {below : List Frame} {meth : Method} {c : Code} {cells slots : Nat} {Q : State → Prop} {D : va_G} {ad : Nat → Nat} {cI cL : ClassId} {b L : Nat} {xs : Nat → Int32} {μ : Mem} (CL : CxL p l s m b meth c D ad cI cL L xs) {t : Nat} (ht : 3 * t + 2 < L) (hcs : cells + 4 ≤ room_1.cells ∧ slots + 24 ≤ room_1.slots) (hI : Inv μ)
    (K : ∀ μ', Inv μ' → Go p l e room_1 s m #[Value.ref b] below meth c (cells + 4) (slots + 24) Q (AL s) D ad cI cL 9 1737 (lvN b ad t) [] μ') : Go p l e room_1 s m #[Value.ref b] below meth c cells slots Q (AL s) D ad cI cL 9 846 (lvN b ad t) [] μ := by
  obtain ⟨n, q, h, w, bs, H⟩ := hI
  have C := CL.1
  have hfl := C.fl
  have hok := C.ok
  refine go_lv (lv' := [some (.ref b), some (.ref (ad 0)), some (.ref (ad 25)), some (.ref (ad 33)), some (.int (nI (3 * t))), none, none, none, none]) rfl ?_
  refine go_aload1 C (pc := 846) dL_law_846 ?_
  refine go_aload0 C (pc := 847) dL_law_847 ?_
  refine go_iload4 C (pc := 848) dL_law_848 ?_
  refine go_iconst C (pc := 850) (v := 1) (by decide) dL_law_850 ?_
  refine go_iadd C (pc := 851) dL_law_851 ?_
  refine go_sld CL (pc := 852) (j := 3 * t + 1) (nI_3 t) (by omega) dL_law_852 ?_
  refine go_aload3 C (pc := 853) dL_law_853 ?_
  refine go_ciL C CL.2.1 (pc := 854) (As := [.ref (ad 0), .int (xs (3 * t + 1)), .ref (ad 33)]) (st := []) (h_isPropped hfl hok (xs (3 * t + 1)) (c_X7_isPropped hfl hok μ (xs (3 * t + 1)) H.1 H.2.1) (fun E hx => (dem1_E hx).2) (fun r μ9 hf => by obtain ⟨j, -, -, e, -⟩ := hf; rw [e]; exact b2i_01 _)) rfl rfl gL_law_L_isPropped rfl yok_L_isPropped ⟨rfl, rfl⟩ ⟨Nat.le_of_ble_eq_true rfl, Nat.le_of_ble_eq_true rfl⟩ (Nat.le_of_ble_eq_true rfl) hcs dL_law_854 (fun r5 μ2 hc => ?_)
  have hs : same μ μ2 CC := hc.cc (fun v μ9 hf => by obtain ⟨_, -, -, -, gs⟩ := hf; rw [gs]; exact same.rf)
  refine go_istore5 C (pc := 857) dL_law_857 ?_
  refine go_aload2 C (pc := 859) dL_law_859 ?_
  refine go_aload0 C (pc := 860) dL_law_860 ?_
  refine go_iload4 C (pc := 861) dL_law_861 ?_
  refine go_iconst C (pc := 863) (v := 1) (by decide) dL_law_863 ?_
  refine go_iadd C (pc := 864) dL_law_864 ?_
  refine go_sld CL (pc := 865) (j := 3 * t + 1) (nI_3 t) (by omega) dL_law_865 ?_
  refine go_ciV1 C (pc := 866) obj_25 (c_X8_isPropped C.fl C.ok μ2 (xs (3 * t + 1)) (H.mo hs) H.2.1) gL_law_X8_isPropped rfl rfl yok_X8_isPropped ⟨rfl, rfl⟩ ⟨Nat.le_of_ble_eq_true rfl, Nat.le_of_ble_eq_true rfl⟩ (Nat.le_of_ble_eq_true rfl) hcs dL_law_866 (fun r6 μ3 hm => ?_)
  refine go_istore6 C (pc := 869) dL_law_869 ?_
  obtain ⟨t1, t2, t3⟩ : TailOK r5 r6 μ3 := q_1 (P := (fun r j => r = b2i (bt (μ 1 1) j))) H (fun a b j x y => x.trans y.symm) (fun v μ9 hf => by obtain ⟨j, a1, a2, a3, gs⟩ := hf; exact ⟨j, a1, a2, a3, by rw [gs]; exact same.rf⟩) hc hm (by decide)
  have t4 : r5 = 0 → r6 = 0 ∨ r6 = 1 := fun z => by
    rcases hm.1 with ⟨-, a⟩ | ⟨j, -, -, e, -⟩
    · rw [t1, z] at a; exact absurd a (by decide)
    · rw [e]; exact b2i_01 _
  refine go_aload2 C (pc := 871) dL_law_871 ?_
  refine go_ciV0 C (pc := 872) obj_25 (c_X8_thrown C.fl C.ok μ3) gL_law_X8_thrown rfl rfl yok_X8_thrown ⟨rfl, rfl⟩ ⟨Nat.le_of_ble_eq_true rfl, Nat.le_of_ble_eq_true rfl⟩ (Nat.le_of_ble_eq_true rfl) hcs dL_law_872 (fun r7 μ4 h7 => ?_)
  obtain ⟨e7, e8⟩ := h7
  subst e7
  refine go_mem e8 ?_
  refine go_iload5 C (pc := 875) dL_law_875 ?_
  refine go_icmp_eq C (pc := 877) (tgt := 882) dL_law_877 (by decide) (fun _ => ?_) (fun z => absurd t1 z)
  refine go_iload5 C (pc := 882) dL_law_882 ?_
  have fin : Go p l e room_1 s m #[Value.ref b] below meth c (cells + 4) (slots + 24) Q (AL s) D ad cI cL 9 906 [some (.ref b), some (.ref (ad 0)), some (.ref (ad 25)), some (.ref (ad 33)), some (.int (nI (3 * t))), some (.int r5), some (.int r6), none, none] [] μ3 := by
    refine go_goto C (pc := 906) (tgt := 1737) dL_law_906 (by decide) ?_
    exact go_drop5 (go_drop6 (K μ3 t3))
  refine go_if_ne C (pc := 884) (tgt := 906) dL_law_884 (by decide) (fun _ => fin) (fun z => ?_)
  refine go_aload3 C (pc := 887) dL_law_887 ?_
  refine go_iconst C (pc := 888) (v := 0) (by decide) dL_law_888 ?_
  refine go_laldO C (pc := 889) dL_law_889 ?_
  refine go_long (congrArg Int32.toInt64 (t2 z)) ?_
  refine go_iload6 C (pc := 890) dL_law_890 ?_
  refine go_if_eq C (pc := 892) (tgt := 899) dL_law_892 (by decide) (fun y => ?_) (fun y => ?_)
  · refine go_lconst C (pc := 899) (v := (0 : Int32).toInt64) rfl dL_law_899 ?_
    refine go_lcmp C (pc := 900) dL_law_900 ?_
    exact go_if_eq C (pc := 901) (tgt := 906) dL_law_901 (by decide) (fun _ => fin) (fun y2 => absurd ((lg_cmp_eq _ _).mpr (congrArg Int32.toInt64 y)) y2)
  · refine go_lconst C (pc := 895) (v := (1 : Int32).toInt64) rfl dL_law_895 ?_
    refine go_goto C (pc := 896) (tgt := 900) dL_law_896 (by decide) ?_
    refine go_lcmp C (pc := 900) dL_law_900 ?_
    exact go_if_eq C (pc := 901) (tgt := 906) dL_law_901 (by decide) (fun _ => fin) (fun y2 => absurd ((lg_cmp_eq _ _).mpr (congrArg Int32.toInt64 ((t4 z).resolve_left y))) y2)
set_option maxRecDepth 20000 in
set_option maxHeartbeats 4000000 in
theorem cs_17 {p : Program} {l : Launch} {e : Env} {s : State} {m : MethodId} {below : List Frame} {meth : Method} {c : Code} {cells slots : Nat} {Q : State → Prop} {D : va_G} {ad : Nat → Nat} {cI cL : ClassId} {b L : Nat} {xs : Nat → Int32} {μ : Mem} (CL : CxL p l s m b meth c D ad cI cL L xs) {t : Nat} (ht : 3 * t + 2 < L) (hcs : cells + 4 ≤ room_1.cells ∧ slots + 24 ≤ room_1.slots) (hI : Inv μ)
    (K : ∀ μ', Inv μ' → Go p l e room_1 s m #[Value.ref b] below meth c (cells + 4) (slots + 24) Q (AL s) D ad cI cL 9 1737 (lvN b ad t) [] μ') : Go p l e room_1 s m #[Value.ref b] below meth c cells slots Q (AL s) D ad cI cL 9 909 (lvN b ad t) [] μ := by
  obtain ⟨n, q, h, w, bs, H⟩ := hI
  have C := CL.1
  have hfl := C.fl
  have hok := C.ok
  refine go_lv (lv' := [some (.ref b), some (.ref (ad 0)), some (.ref (ad 25)), some (.ref (ad 33)), some (.int (nI (3 * t))), none, none, none, none]) rfl ?_
  refine go_widen (k := cells + 4) (n := slots + 24) (Nat.le_add_right _ _) (Nat.le_add_right _ _) ?_
  refine go_aload1 C (pc := 909) dL_law_909 ?_
  refine go_ciV0 C (pc := 910) obj_0 (c_X7_triangles C.fl C.ok μ H.1 H.2.1) gL_law_X7_triangles rfl rfl yok_X7_triangles ⟨rfl, rfl⟩ ⟨Nat.le_of_ble_eq_true rfl, Nat.le_of_ble_eq_true rfl⟩ (Nat.le_of_ble_eq_true rfl) hcs dL_law_910 (fun r5 μ2 hc => ?_)
  have hq : same μ μ2 SC := by rw [hc.2]; exact same.rf
  have hs : same μ μ2 CC := hq.mono (by decide)
  refine go_aload2 C (pc := 913) dL_law_913 ?_
  refine go_ciV0 C (pc := 914) obj_25 (c_X8_triangles C.fl C.ok μ2 (H.mo hs) H.2.1) gL_law_X8_triangles rfl rfl yok_X8_triangles ⟨rfl, rfl⟩ ⟨Nat.le_of_ble_eq_true rfl, Nat.le_of_ble_eq_true rfl⟩ (Nat.le_of_ble_eq_true rfl) hcs dL_law_914 (fun r6 μ3 hm => ?_)
  have t2 : r5 = r6 := hc.1.trans hm.1.symm
  have t3 : Inv μ3 := inv_q H hq hm.2.2 (by decide)
  exact go_icmp_eq C (pc := 917) (tgt := 1737) dL_law_917 (by decide) (fun _ => K μ3 t3) (fun z => absurd t2 z)
set_option maxRecDepth 20000 in
set_option maxHeartbeats 4000000 in
theorem cs_18 {p : Program} {l : Launch} {e : Env} {s : State} {m : MethodId} {below : List Frame} {meth : Method} {c : Code} {cells slots : Nat} {Q : State → Prop} {D : va_G} {ad : Nat → Nat} {cI cL : ClassId} {b L : Nat} {xs : Nat → Int32} {μ : Mem} (CL : CxL p l s m b meth c D ad cI cL L xs) {t : Nat} (ht : 3 * t + 2 < L) (hcs : cells + 4 ≤ room_1.cells ∧ slots + 24 ≤ room_1.slots) (hI : Inv μ)
    (K : ∀ μ', Inv μ' → Go p l e room_1 s m #[Value.ref b] below meth c (cells + 4) (slots + 24) Q (AL s) D ad cI cL 9 1737 (lvN b ad t) [] μ') : Go p l e room_1 s m #[Value.ref b] below meth c cells slots Q (AL s) D ad cI cL 9 922 (lvN b ad t) [] μ := by
  obtain ⟨n, q, h, w, bs, H⟩ := hI
  have C := CL.1
  have hfl := C.fl
  have hok := C.ok
  refine go_lv (lv' := [some (.ref b), some (.ref (ad 0)), some (.ref (ad 25)), some (.ref (ad 33)), some (.int (nI (3 * t))), none, none, none, none]) rfl ?_
  refine go_widen (k := cells + 4) (n := slots + 24) (Nat.le_add_right _ _) (Nat.le_add_right _ _) ?_
  refine go_aload1 C (pc := 922) dL_law_922 ?_
  refine go_ciV0 C (pc := 923) obj_0 (c_X7_trianglesBySupport C.fl C.ok μ H.1 H.2.1) gL_law_X7_trianglesBySupport rfl rfl yok_X7_trianglesBySupport ⟨rfl, rfl⟩ ⟨Nat.le_of_ble_eq_true rfl, Nat.le_of_ble_eq_true rfl⟩ (Nat.le_of_ble_eq_true rfl) hcs dL_law_923 (fun r5 μ2 hc => ?_)
  have hq : same μ μ2 SC := by rw [hc.2]; exact same.rf
  have hs : same μ μ2 CC := hq.mono (by decide)
  refine go_aload2 C (pc := 926) dL_law_926 ?_
  refine go_ciV0 C (pc := 927) obj_25 (c_X8_trianglesBySupport C.fl C.ok μ2 (H.mo hs) H.2.1) gL_law_X8_trianglesBySupport rfl rfl yok_X8_trianglesBySupport ⟨rfl, rfl⟩ ⟨Nat.le_of_ble_eq_true rfl, Nat.le_of_ble_eq_true rfl⟩ (Nat.le_of_ble_eq_true rfl) hcs dL_law_927 (fun r6 μ3 hm => ?_)
  have t2 : r5 = r6 := hc.1.trans hm.1.symm
  have t3 : Inv μ3 := inv_q H hq hm.2.2 (by decide)
  exact go_icmp_eq C (pc := 930) (tgt := 1737) dL_law_930 (by decide) (fun _ => K μ3 t3) (fun z => absurd t2 z)
set_option maxRecDepth 20000 in
set_option maxHeartbeats 4000000 in
theorem cs_19 {p : Program} {l : Launch} {e : Env} {s : State} {m : MethodId} {below : List Frame} {meth : Method} {c : Code} {cells slots : Nat} {Q : State → Prop} {D : va_G} {ad : Nat → Nat} {cI cL : ClassId} {b L : Nat} {xs : Nat → Int32} {μ : Mem} (CL : CxL p l s m b meth c D ad cI cL L xs) {t : Nat} (ht : 3 * t + 2 < L) (hcs : cells + 4 ≤ room_1.cells ∧ slots + 24 ≤ room_1.slots) (hI : Inv μ)
    (K : ∀ μ', Inv μ' → Go p l e room_1 s m #[Value.ref b] below meth c (cells + 4) (slots + 24) Q (AL s) D ad cI cL 9 1737 (lvN b ad t) [] μ') : Go p l e room_1 s m #[Value.ref b] below meth c cells slots Q (AL s) D ad cI cL 9 935 (lvN b ad t) [] μ := by
  obtain ⟨n, q, h, w, bs, H⟩ := hI
  have C := CL.1
  have hfl := C.fl
  have hok := C.ok
  refine go_lv (lv' := [some (.ref b), some (.ref (ad 0)), some (.ref (ad 25)), some (.ref (ad 33)), some (.int (nI (3 * t))), none, none, none, none]) rfl ?_
  refine go_aload1 C (pc := 935) dL_law_935 ?_
  refine go_aload0 C (pc := 936) dL_law_936 ?_
  refine go_iload4 C (pc := 937) dL_law_937 ?_
  refine go_iconst C (pc := 939) (v := 1) (by decide) dL_law_939 ?_
  refine go_iadd C (pc := 940) dL_law_940 ?_
  refine go_sld CL (pc := 941) (j := 3 * t + 1) (nI_3 t) (by omega) dL_law_941 ?_
  refine go_aload3 C (pc := 942) dL_law_942 ?_
  refine go_ciL C CL.2.1 (pc := 943) (As := [.ref (ad 0), .int (xs (3 * t + 1)), .ref (ad 33)]) (st := []) (h_core hfl hok (xs (3 * t + 1)) (c_X7_core hfl hok μ (xs (3 * t + 1)) H.1 H.2.1) (fun E hx => (demK_E hx).2)) rfl rfl gL_law_L_core rfl yok_L_core ⟨rfl, rfl⟩ ⟨Nat.le_of_ble_eq_true rfl, Nat.le_of_ble_eq_true rfl⟩ (Nat.le_of_ble_eq_true rfl) hcs dL_law_943 (fun r5 μ2 hc => ?_)
  have hs : same μ μ2 CC := hc.cc (fun v μ9 hf => by obtain ⟨_, -, -, -, gs⟩ := hf; rw [gs]; exact same.rf)
  refine go_istore5 C (pc := 946) dL_law_946 ?_
  refine go_aload2 C (pc := 948) dL_law_948 ?_
  refine go_aload0 C (pc := 949) dL_law_949 ?_
  refine go_iload4 C (pc := 950) dL_law_950 ?_
  refine go_iconst C (pc := 952) (v := 1) (by decide) dL_law_952 ?_
  refine go_iadd C (pc := 953) dL_law_953 ?_
  refine go_sld CL (pc := 954) (j := 3 * t + 1) (nI_3 t) (by omega) dL_law_954 ?_
  refine go_ciV1 C (pc := 955) obj_25 (c_X8_core C.fl C.ok μ2 (xs (3 * t + 1)) (H.mo hs) H.2.1) gL_law_X8_core rfl rfl yok_X8_core ⟨rfl, rfl⟩ ⟨Nat.le_of_ble_eq_true rfl, Nat.le_of_ble_eq_true rfl⟩ (Nat.le_of_ble_eq_true rfl) hcs dL_law_955 (fun r6 μ3 hm => ?_)
  refine go_istore6 C (pc := 958) dL_law_958 ?_
  obtain ⟨t1, t2, t3⟩ : TailOK r5 r6 μ3 := q_K (P := (fun r k => r = coreI (μ 3) (μ 1 1) k (allI n))) H (fun a b j x y => x.trans y.symm) (fun v μ9 hf => by obtain ⟨j, a1, a2, a3, gs⟩ := hf; exact ⟨j, a1, a2, a3, by rw [gs]; exact same.rf⟩) hc hm (by decide)
  refine go_aload2 C (pc := 960) dL_law_960 ?_
  refine go_ciV0 C (pc := 961) obj_25 (c_X8_thrown C.fl C.ok μ3) gL_law_X8_thrown rfl rfl yok_X8_thrown ⟨rfl, rfl⟩ ⟨Nat.le_of_ble_eq_true rfl, Nat.le_of_ble_eq_true rfl⟩ (Nat.le_of_ble_eq_true rfl) hcs dL_law_961 (fun r7 μ4 h7 => ?_)
  obtain ⟨e7, e8⟩ := h7
  subst e7
  refine go_mem e8 ?_
  refine go_iload5 C (pc := 964) dL_law_964 ?_
  refine go_icmp_eq C (pc := 966) (tgt := 971) dL_law_966 (by decide) (fun _ => ?_) (fun z => absurd t1 z)
  refine go_iload5 C (pc := 971) dL_law_971 ?_
  have fin : Go p l e room_1 s m #[Value.ref b] below meth c (cells + 4) (slots + 24) Q (AL s) D ad cI cL 9 988 [some (.ref b), some (.ref (ad 0)), some (.ref (ad 25)), some (.ref (ad 33)), some (.int (nI (3 * t))), some (.int r5), some (.int r6), none, none] [] μ3 := by
    refine go_goto C (pc := 988) (tgt := 1737) dL_law_988 (by decide) ?_
    exact go_drop5 (go_drop6 (K μ3 t3))
  refine go_if_ne C (pc := 973) (tgt := 988) dL_law_973 (by decide) (fun _ => fin) (fun z => ?_)
  refine go_aload3 C (pc := 976) dL_law_976 ?_
  refine go_iconst C (pc := 977) (v := 0) (by decide) dL_law_977 ?_
  refine go_laldO C (pc := 978) dL_law_978 ?_
  refine go_long (congrArg Int32.toInt64 (t2 z)) ?_
  refine go_iload6 C (pc := 979) dL_law_979 ?_
  refine go_i2l C (pc := 981) dL_law_981 ?_
  refine go_lcmp C (pc := 982) dL_law_982 ?_
  exact go_if_eq C (pc := 983) (tgt := 988) dL_law_983 (by decide) (fun _ => fin) (fun y => absurd ((lg_cmp_eq _ _).mpr rfl) y)
set_option maxRecDepth 20000 in
set_option maxHeartbeats 4000000 in
theorem cs_20 {p : Program} {l : Launch} {e : Env} {s : State} {m : MethodId} {below : List Frame} {meth : Method} {c : Code} {cells slots : Nat} {Q : State → Prop} {D : va_G} {ad : Nat → Nat} {cI cL : ClassId} {b L : Nat} {xs : Nat → Int32} {μ : Mem} (CL : CxL p l s m b meth c D ad cI cL L xs) {t : Nat} (ht : 3 * t + 2 < L) (hcs : cells + 4 ≤ room_1.cells ∧ slots + 24 ≤ room_1.slots) (hI : Inv μ)
    (K : ∀ μ', Inv μ' → Go p l e room_1 s m #[Value.ref b] below meth c (cells + 4) (slots + 24) Q (AL s) D ad cI cL 9 1737 (lvN b ad t) [] μ') : Go p l e room_1 s m #[Value.ref b] below meth c cells slots Q (AL s) D ad cI cL 9 991 (lvN b ad t) [] μ := by
  obtain ⟨n, q, h, w, bs, H⟩ := hI
  have C := CL.1
  have hfl := C.fl
  have hok := C.ok
  refine go_lv (lv' := [some (.ref b), some (.ref (ad 0)), some (.ref (ad 25)), some (.ref (ad 33)), some (.int (nI (3 * t))), none, none, none, none]) rfl ?_
  refine go_aload1 C (pc := 991) dL_law_991 ?_
  refine go_aload0 C (pc := 992) dL_law_992 ?_
  refine go_iload4 C (pc := 993) dL_law_993 ?_
  refine go_iconst C (pc := 995) (v := 1) (by decide) dL_law_995 ?_
  refine go_iadd C (pc := 996) dL_law_996 ?_
  refine go_sld CL (pc := 997) (j := 3 * t + 1) (nI_3 t) (by omega) dL_law_997 ?_
  refine go_aload3 C (pc := 998) dL_law_998 ?_
  refine go_ciL C CL.2.1 (pc := 999) (As := [.ref (ad 0), .int (xs (3 * t + 1)), .ref (ad 33)]) (st := []) (h_coreOf hfl hok (xs (3 * t + 1)) (c_X7_coreOf hfl hok μ (xs (3 * t + 1)) H.1 H.2.1) (fun E hx => (dem1_E hx).2)) rfl rfl gL_law_L_coreOf rfl yok_L_coreOf ⟨rfl, rfl⟩ ⟨Nat.le_of_ble_eq_true rfl, Nat.le_of_ble_eq_true rfl⟩ (Nat.le_of_ble_eq_true rfl) hcs dL_law_999 (fun r5 μ2 hc => ?_)
  have hs : same μ μ2 CC := hc.cc (fun v μ9 hf => by obtain ⟨_, -, -, -, gs⟩ := hf; rw [gs]; exact same.rf)
  refine go_istore5 C (pc := 1002) dL_law_1002 ?_
  refine go_aload2 C (pc := 1004) dL_law_1004 ?_
  refine go_aload0 C (pc := 1005) dL_law_1005 ?_
  refine go_iload4 C (pc := 1006) dL_law_1006 ?_
  refine go_iconst C (pc := 1008) (v := 1) (by decide) dL_law_1008 ?_
  refine go_iadd C (pc := 1009) dL_law_1009 ?_
  refine go_sld CL (pc := 1010) (j := 3 * t + 1) (nI_3 t) (by omega) dL_law_1010 ?_
  refine go_ciV1 C (pc := 1011) obj_25 (c_X8_coreOf C.fl C.ok μ2 (xs (3 * t + 1)) (H.mo hs) H.2.1) gL_law_X8_coreOf rfl rfl yok_X8_coreOf ⟨rfl, rfl⟩ ⟨Nat.le_of_ble_eq_true rfl, Nat.le_of_ble_eq_true rfl⟩ (Nat.le_of_ble_eq_true rfl) hcs dL_law_1011 (fun r6 μ3 hm => ?_)
  refine go_istore6 C (pc := 1014) dL_law_1014 ?_
  obtain ⟨t1, t2, t3⟩ : TailOK r5 r6 μ3 := q_1 (P := (fun r j => r = nI (coreN (μ 3) (μ 1 1) n j))) H (fun a b j x y => x.trans y.symm) (fun v μ9 hf => by obtain ⟨j, a1, a2, a3, gs⟩ := hf; exact ⟨j, a1, a2, a3, by rw [gs]; exact same.rf⟩) hc hm (by decide)
  refine go_aload2 C (pc := 1016) dL_law_1016 ?_
  refine go_ciV0 C (pc := 1017) obj_25 (c_X8_thrown C.fl C.ok μ3) gL_law_X8_thrown rfl rfl yok_X8_thrown ⟨rfl, rfl⟩ ⟨Nat.le_of_ble_eq_true rfl, Nat.le_of_ble_eq_true rfl⟩ (Nat.le_of_ble_eq_true rfl) hcs dL_law_1017 (fun r7 μ4 h7 => ?_)
  obtain ⟨e7, e8⟩ := h7
  subst e7
  refine go_mem e8 ?_
  refine go_iload5 C (pc := 1020) dL_law_1020 ?_
  refine go_icmp_eq C (pc := 1022) (tgt := 1027) dL_law_1022 (by decide) (fun _ => ?_) (fun z => absurd t1 z)
  refine go_iload5 C (pc := 1027) dL_law_1027 ?_
  have fin : Go p l e room_1 s m #[Value.ref b] below meth c (cells + 4) (slots + 24) Q (AL s) D ad cI cL 9 1044 [some (.ref b), some (.ref (ad 0)), some (.ref (ad 25)), some (.ref (ad 33)), some (.int (nI (3 * t))), some (.int r5), some (.int r6), none, none] [] μ3 := by
    refine go_goto C (pc := 1044) (tgt := 1737) dL_law_1044 (by decide) ?_
    exact go_drop5 (go_drop6 (K μ3 t3))
  refine go_if_ne C (pc := 1029) (tgt := 1044) dL_law_1029 (by decide) (fun _ => fin) (fun z => ?_)
  refine go_aload3 C (pc := 1032) dL_law_1032 ?_
  refine go_iconst C (pc := 1033) (v := 0) (by decide) dL_law_1033 ?_
  refine go_laldO C (pc := 1034) dL_law_1034 ?_
  refine go_long (congrArg Int32.toInt64 (t2 z)) ?_
  refine go_iload6 C (pc := 1035) dL_law_1035 ?_
  refine go_i2l C (pc := 1037) dL_law_1037 ?_
  refine go_lcmp C (pc := 1038) dL_law_1038 ?_
  exact go_if_eq C (pc := 1039) (tgt := 1044) dL_law_1039 (by decide) (fun _ => fin) (fun y => absurd ((lg_cmp_eq _ _).mpr rfl) y)
set_option maxRecDepth 20000 in
set_option maxHeartbeats 4000000 in
theorem cs_21 {p : Program} {l : Launch} {e : Env} {s : State} {m : MethodId} {below : List Frame} {meth : Method} {c : Code} {cells slots : Nat} {Q : State → Prop} {D : va_G} {ad : Nat → Nat} {cI cL : ClassId} {b L : Nat} {xs : Nat → Int32} {μ : Mem} (CL : CxL p l s m b meth c D ad cI cL L xs) {t : Nat} (ht : 3 * t + 2 < L) (hcs : cells + 4 ≤ room_1.cells ∧ slots + 24 ≤ room_1.slots) (hI : Inv μ)
    (K : ∀ μ', Inv μ' → Go p l e room_1 s m #[Value.ref b] below meth c (cells + 4) (slots + 24) Q (AL s) D ad cI cL 9 1737 (lvN b ad t) [] μ') : Go p l e room_1 s m #[Value.ref b] below meth c cells slots Q (AL s) D ad cI cL 9 1047 (lvN b ad t) [] μ := by
  obtain ⟨n, q, h, w, bs, H⟩ := hI
  have C := CL.1
  have hfl := C.fl
  have hok := C.ok
  refine go_lv (lv' := [some (.ref b), some (.ref (ad 0)), some (.ref (ad 25)), some (.ref (ad 33)), some (.int (nI (3 * t))), none, none, none, none]) rfl ?_
  refine go_aload1 C (pc := 1047) dL_law_1047 ?_
  refine go_aload0 C (pc := 1048) dL_law_1048 ?_
  refine go_iload4 C (pc := 1049) dL_law_1049 ?_
  refine go_iconst C (pc := 1051) (v := 1) (by decide) dL_law_1051 ?_
  refine go_iadd C (pc := 1052) dL_law_1052 ?_
  refine go_sld CL (pc := 1053) (j := 3 * t + 1) (nI_3 t) (by omega) dL_law_1053 ?_
  refine go_aload3 C (pc := 1054) dL_law_1054 ?_
  refine go_ciL C CL.2.1 (pc := 1055) (As := [.ref (ad 0), .int (xs (3 * t + 1)), .ref (ad 33)]) (st := []) (h_coreByRounds hfl hok (xs (3 * t + 1)) (c_X7_coreByRounds hfl hok μ (xs (3 * t + 1)) H.1 H.2.1) (fun E hx => (dem1_E hx).2)) rfl rfl gL_law_L_coreByRounds rfl yok_L_coreByRounds ⟨rfl, rfl⟩ ⟨Nat.le_of_ble_eq_true rfl, Nat.le_of_ble_eq_true rfl⟩ (Nat.le_of_ble_eq_true rfl) hcs dL_law_1055 (fun r5 μ2 hc => ?_)
  have hs : same μ μ2 CC := hc.cc (fun v μ9 hf => by obtain ⟨_, -, -, -, F, gs⟩ := hf; rw [gs]; exact same.m1 (by decide))
  refine go_istore5 C (pc := 1058) dL_law_1058 ?_
  refine go_aload2 C (pc := 1060) dL_law_1060 ?_
  refine go_aload0 C (pc := 1061) dL_law_1061 ?_
  refine go_iload4 C (pc := 1062) dL_law_1062 ?_
  refine go_iconst C (pc := 1064) (v := 1) (by decide) dL_law_1064 ?_
  refine go_iadd C (pc := 1065) dL_law_1065 ?_
  refine go_sld CL (pc := 1066) (j := 3 * t + 1) (nI_3 t) (by omega) dL_law_1066 ?_
  refine go_ciV1 C (pc := 1067) obj_25 (c_X8_coreByRounds C.fl C.ok μ2 (xs (3 * t + 1)) (H.mo hs) H.2.1) gL_law_X8_coreByRounds rfl rfl yok_X8_coreByRounds ⟨rfl, rfl⟩ ⟨Nat.le_of_ble_eq_true rfl, Nat.le_of_ble_eq_true rfl⟩ (Nat.le_of_ble_eq_true rfl) hcs dL_law_1067 (fun r6 μ3 hm => ?_)
  refine go_istore6 C (pc := 1070) dL_law_1070 ?_
  obtain ⟨t1, t2, t3⟩ : TailOK r5 r6 μ3 := q_1 (P := (fun r j => r = nI (coreN (μ 3) (μ 1 1) n j))) H (fun a b j x y => x.trans y.symm) (fun v μ9 hf => by obtain ⟨j, a1, a2, a3, gs⟩ := hf; exact ⟨j, a1, a2, a3, by obtain ⟨F, gs⟩ := gs; rw [gs]; exact same.m1 (by decide)⟩) hc hm (by decide)
  refine go_aload2 C (pc := 1072) dL_law_1072 ?_
  refine go_ciV0 C (pc := 1073) obj_25 (c_X8_thrown C.fl C.ok μ3) gL_law_X8_thrown rfl rfl yok_X8_thrown ⟨rfl, rfl⟩ ⟨Nat.le_of_ble_eq_true rfl, Nat.le_of_ble_eq_true rfl⟩ (Nat.le_of_ble_eq_true rfl) hcs dL_law_1073 (fun r7 μ4 h7 => ?_)
  obtain ⟨e7, e8⟩ := h7
  subst e7
  refine go_mem e8 ?_
  refine go_iload5 C (pc := 1076) dL_law_1076 ?_
  refine go_icmp_eq C (pc := 1078) (tgt := 1083) dL_law_1078 (by decide) (fun _ => ?_) (fun z => absurd t1 z)
  refine go_iload5 C (pc := 1083) dL_law_1083 ?_
  have fin : Go p l e room_1 s m #[Value.ref b] below meth c (cells + 4) (slots + 24) Q (AL s) D ad cI cL 9 1100 [some (.ref b), some (.ref (ad 0)), some (.ref (ad 25)), some (.ref (ad 33)), some (.int (nI (3 * t))), some (.int r5), some (.int r6), none, none] [] μ3 := by
    refine go_goto C (pc := 1100) (tgt := 1737) dL_law_1100 (by decide) ?_
    exact go_drop5 (go_drop6 (K μ3 t3))
  refine go_if_ne C (pc := 1085) (tgt := 1100) dL_law_1085 (by decide) (fun _ => fin) (fun z => ?_)
  refine go_aload3 C (pc := 1088) dL_law_1088 ?_
  refine go_iconst C (pc := 1089) (v := 0) (by decide) dL_law_1089 ?_
  refine go_laldO C (pc := 1090) dL_law_1090 ?_
  refine go_long (congrArg Int32.toInt64 (t2 z)) ?_
  refine go_iload6 C (pc := 1091) dL_law_1091 ?_
  refine go_i2l C (pc := 1093) dL_law_1093 ?_
  refine go_lcmp C (pc := 1094) dL_law_1094 ?_
  exact go_if_eq C (pc := 1095) (tgt := 1100) dL_law_1095 (by decide) (fun _ => fin) (fun y => absurd ((lg_cmp_eq _ _).mpr rfl) y)
set_option maxRecDepth 20000 in
set_option maxHeartbeats 4000000 in
theorem cs_22 {p : Program} {l : Launch} {e : Env} {s : State} {m : MethodId} {below : List Frame} {meth : Method} {c : Code} {cells slots : Nat} {Q : State → Prop} {D : va_G} {ad : Nat → Nat} {cI cL : ClassId} {b L : Nat} {xs : Nat → Int32} {μ : Mem} (CL : CxL p l s m b meth c D ad cI cL L xs) {t : Nat} (ht : 3 * t + 2 < L) (hcs : cells + 4 ≤ room_1.cells ∧ slots + 24 ≤ room_1.slots) (hI : Inv μ)
    (K : ∀ μ', Inv μ' → Go p l e room_1 s m #[Value.ref b] below meth c (cells + 4) (slots + 24) Q (AL s) D ad cI cL 9 1737 (lvN b ad t) [] μ') : Go p l e room_1 s m #[Value.ref b] below meth c cells slots Q (AL s) D ad cI cL 9 1103 (lvN b ad t) [] μ := by
  obtain ⟨n, q, h, w, bs, H⟩ := hI
  have C := CL.1
  have hfl := C.fl
  have hok := C.ok
  refine go_lv (lv' := [some (.ref b), some (.ref (ad 0)), some (.ref (ad 25)), some (.ref (ad 33)), some (.int (nI (3 * t))), none, none, none, none]) rfl ?_
  refine go_aload1 C (pc := 1103) dL_law_1103 ?_
  refine go_aload0 C (pc := 1104) dL_law_1104 ?_
  refine go_iload4 C (pc := 1105) dL_law_1105 ?_
  refine go_iconst C (pc := 1107) (v := 1) (by decide) dL_law_1107 ?_
  refine go_iadd C (pc := 1108) dL_law_1108 ?_
  refine go_sld CL (pc := 1109) (j := 3 * t + 1) (nI_3 t) (by omega) dL_law_1109 ?_
  refine go_aload3 C (pc := 1110) dL_law_1110 ?_
  refine go_ciL C CL.2.1 (pc := 1111) (As := [.ref (ad 0), .int (xs (3 * t + 1)), .ref (ad 33)]) (st := []) (h_placeOf hfl hok (xs (3 * t + 1)) (c_X7_placeOf hfl hok μ (xs (3 * t + 1)) H.1 H.2.1) (fun E hx => (dem1_E hx).2)) rfl rfl gL_law_L_placeOf rfl yok_L_placeOf ⟨rfl, rfl⟩ ⟨Nat.le_of_ble_eq_true rfl, Nat.le_of_ble_eq_true rfl⟩ (Nat.le_of_ble_eq_true rfl) hcs dL_law_1111 (fun r5 μ2 hc => ?_)
  have hs : same μ μ2 CC := hc.cc (fun v μ9 hf => by obtain ⟨_, -, -, -, F, gs⟩ := hf; rw [gs]; exact same.m1 (by decide))
  refine go_istore5 C (pc := 1114) dL_law_1114 ?_
  refine go_aload2 C (pc := 1116) dL_law_1116 ?_
  refine go_aload0 C (pc := 1117) dL_law_1117 ?_
  refine go_iload4 C (pc := 1118) dL_law_1118 ?_
  refine go_iconst C (pc := 1120) (v := 1) (by decide) dL_law_1120 ?_
  refine go_iadd C (pc := 1121) dL_law_1121 ?_
  refine go_sld CL (pc := 1122) (j := 3 * t + 1) (nI_3 t) (by omega) dL_law_1122 ?_
  refine go_ciV1 C (pc := 1123) obj_25 (c_X8_placeOf C.fl C.ok μ2 (xs (3 * t + 1)) (H.mo hs) H.2.1) gL_law_X8_placeOf rfl rfl yok_X8_placeOf ⟨rfl, rfl⟩ ⟨Nat.le_of_ble_eq_true rfl, Nat.le_of_ble_eq_true rfl⟩ (Nat.le_of_ble_eq_true rfl) hcs dL_law_1123 (fun r6 μ3 hm => ?_)
  refine go_istore6 C (pc := 1126) dL_law_1126 ?_
  obtain ⟨t1, t2, t3⟩ : TailOK r5 r6 μ3 := q_1 (P := (fun r j => ∃ x, r = nI x ∧ x < n ∧ ordN (μ 3) (μ 1 1) n x = j ∧ ∀ y, y < x → ordN (μ 3) (μ 1 1) n y ≠ j)) H (fun a b j x y => by obtain ⟨x1, rfl, x2, x3, x4⟩ := x; obtain ⟨y1, rfl, y2, y3, y4⟩ := y; rcases Nat.lt_trichotomy x1 y1 with z | z | z; exact absurd x3 (y4 x1 z); rw [z]; exact absurd y3 (x4 y1 z)) (fun v μ9 hf => by obtain ⟨j, a1, a2, a3, gs⟩ := hf; exact ⟨j, a1, a2, a3, by obtain ⟨F, gs⟩ := gs; rw [gs]; exact same.m1 (by decide)⟩) hc hm (by decide)
  refine go_aload2 C (pc := 1128) dL_law_1128 ?_
  refine go_ciV0 C (pc := 1129) obj_25 (c_X8_thrown C.fl C.ok μ3) gL_law_X8_thrown rfl rfl yok_X8_thrown ⟨rfl, rfl⟩ ⟨Nat.le_of_ble_eq_true rfl, Nat.le_of_ble_eq_true rfl⟩ (Nat.le_of_ble_eq_true rfl) hcs dL_law_1129 (fun r7 μ4 h7 => ?_)
  obtain ⟨e7, e8⟩ := h7
  subst e7
  refine go_mem e8 ?_
  refine go_iload5 C (pc := 1132) dL_law_1132 ?_
  refine go_icmp_eq C (pc := 1134) (tgt := 1139) dL_law_1134 (by decide) (fun _ => ?_) (fun z => absurd t1 z)
  refine go_iload5 C (pc := 1139) dL_law_1139 ?_
  have fin : Go p l e room_1 s m #[Value.ref b] below meth c (cells + 4) (slots + 24) Q (AL s) D ad cI cL 9 1156 [some (.ref b), some (.ref (ad 0)), some (.ref (ad 25)), some (.ref (ad 33)), some (.int (nI (3 * t))), some (.int r5), some (.int r6), none, none] [] μ3 := by
    refine go_goto C (pc := 1156) (tgt := 1737) dL_law_1156 (by decide) ?_
    exact go_drop5 (go_drop6 (K μ3 t3))
  refine go_if_ne C (pc := 1141) (tgt := 1156) dL_law_1141 (by decide) (fun _ => fin) (fun z => ?_)
  refine go_aload3 C (pc := 1144) dL_law_1144 ?_
  refine go_iconst C (pc := 1145) (v := 0) (by decide) dL_law_1145 ?_
  refine go_laldO C (pc := 1146) dL_law_1146 ?_
  refine go_long (congrArg Int32.toInt64 (t2 z)) ?_
  refine go_iload6 C (pc := 1147) dL_law_1147 ?_
  refine go_i2l C (pc := 1149) dL_law_1149 ?_
  refine go_lcmp C (pc := 1150) dL_law_1150 ?_
  exact go_if_eq C (pc := 1151) (tgt := 1156) dL_law_1151 (by decide) (fun _ => fin) (fun y => absurd ((lg_cmp_eq _ _).mpr rfl) y)
set_option maxRecDepth 20000 in
set_option maxHeartbeats 4000000 in
theorem cs_23 {p : Program} {l : Launch} {e : Env} {s : State} {m : MethodId} {below : List Frame} {meth : Method} {c : Code} {cells slots : Nat} {Q : State → Prop} {D : va_G} {ad : Nat → Nat} {cI cL : ClassId} {b L : Nat} {xs : Nat → Int32} {μ : Mem} (CL : CxL p l s m b meth c D ad cI cL L xs) {t : Nat} (ht : 3 * t + 2 < L) (hcs : cells + 4 ≤ room_1.cells ∧ slots + 24 ≤ room_1.slots) (hI : Inv μ)
    (K : ∀ μ', Inv μ' → Go p l e room_1 s m #[Value.ref b] below meth c (cells + 4) (slots + 24) Q (AL s) D ad cI cL 9 1737 (lvN b ad t) [] μ') : Go p l e room_1 s m #[Value.ref b] below meth c cells slots Q (AL s) D ad cI cL 9 1159 (lvN b ad t) [] μ := by
  obtain ⟨n, q, h, w, bs, H⟩ := hI
  have C := CL.1
  have hfl := C.fl
  have hok := C.ok
  refine go_lv (lv' := [some (.ref b), some (.ref (ad 0)), some (.ref (ad 25)), some (.ref (ad 33)), some (.int (nI (3 * t))), none, none, none, none]) rfl ?_
  refine go_aload1 C (pc := 1159) dL_law_1159 ?_
  refine go_aload0 C (pc := 1160) dL_law_1160 ?_
  refine go_iload4 C (pc := 1161) dL_law_1161 ?_
  refine go_iconst C (pc := 1163) (v := 1) (by decide) dL_law_1163 ?_
  refine go_iadd C (pc := 1164) dL_law_1164 ?_
  refine go_sld CL (pc := 1165) (j := 3 * t + 1) (nI_3 t) (by omega) dL_law_1165 ?_
  refine go_aload3 C (pc := 1166) dL_law_1166 ?_
  refine go_ciL C CL.2.1 (pc := 1167) (As := [.ref (ad 0), .int (xs (3 * t + 1)), .ref (ad 33)]) (st := []) (h_corePieces hfl hok (xs (3 * t + 1)) (c_X7_corePieces hfl hok μ (xs (3 * t + 1)) H.1 H.2.1) (fun E hx => (demK_E hx).2)) rfl rfl gL_law_L_corePieces rfl yok_L_corePieces ⟨rfl, rfl⟩ ⟨Nat.le_of_ble_eq_true rfl, Nat.le_of_ble_eq_true rfl⟩ (Nat.le_of_ble_eq_true rfl) hcs dL_law_1167 (fun r5 μ2 hc => ?_)
  have hs : same μ μ2 CC := hc.cc (fun v μ9 hf => by obtain ⟨_, -, -, -, gs⟩ := hf; rw [gs]; exact same.rf)
  refine go_istore5 C (pc := 1170) dL_law_1170 ?_
  refine go_aload2 C (pc := 1172) dL_law_1172 ?_
  refine go_aload0 C (pc := 1173) dL_law_1173 ?_
  refine go_iload4 C (pc := 1174) dL_law_1174 ?_
  refine go_iconst C (pc := 1176) (v := 1) (by decide) dL_law_1176 ?_
  refine go_iadd C (pc := 1177) dL_law_1177 ?_
  refine go_sld CL (pc := 1178) (j := 3 * t + 1) (nI_3 t) (by omega) dL_law_1178 ?_
  refine go_ciV1 C (pc := 1179) obj_25 (c_X8_corePieces C.fl C.ok μ2 (xs (3 * t + 1)) (H.mo hs) H.2.1) gL_law_X8_corePieces rfl rfl yok_X8_corePieces ⟨rfl, rfl⟩ ⟨Nat.le_of_ble_eq_true rfl, Nat.le_of_ble_eq_true rfl⟩ (Nat.le_of_ble_eq_true rfl) hcs dL_law_1179 (fun r6 μ3 hm => ?_)
  refine go_istore6 C (pc := 1182) dL_law_1182 ?_
  obtain ⟨t1, t2, t3⟩ : TailOK r5 r6 μ3 := q_K (P := (fun r k => r = nI (piecesI (μ 3) (coreI (μ 3) (μ 1 1) k (allI n)) 16).1)) H (fun a b j x y => x.trans y.symm) (fun v μ9 hf => by obtain ⟨j, a1, a2, a3, gs⟩ := hf; exact ⟨j, a1, a2, a3, by rw [gs]; exact same.rf⟩) hc hm (by decide)
  refine go_aload2 C (pc := 1184) dL_law_1184 ?_
  refine go_ciV0 C (pc := 1185) obj_25 (c_X8_thrown C.fl C.ok μ3) gL_law_X8_thrown rfl rfl yok_X8_thrown ⟨rfl, rfl⟩ ⟨Nat.le_of_ble_eq_true rfl, Nat.le_of_ble_eq_true rfl⟩ (Nat.le_of_ble_eq_true rfl) hcs dL_law_1185 (fun r7 μ4 h7 => ?_)
  obtain ⟨e7, e8⟩ := h7
  subst e7
  refine go_mem e8 ?_
  refine go_iload5 C (pc := 1188) dL_law_1188 ?_
  refine go_icmp_eq C (pc := 1190) (tgt := 1195) dL_law_1190 (by decide) (fun _ => ?_) (fun z => absurd t1 z)
  refine go_iload5 C (pc := 1195) dL_law_1195 ?_
  have fin : Go p l e room_1 s m #[Value.ref b] below meth c (cells + 4) (slots + 24) Q (AL s) D ad cI cL 9 1212 [some (.ref b), some (.ref (ad 0)), some (.ref (ad 25)), some (.ref (ad 33)), some (.int (nI (3 * t))), some (.int r5), some (.int r6), none, none] [] μ3 := by
    refine go_goto C (pc := 1212) (tgt := 1737) dL_law_1212 (by decide) ?_
    exact go_drop5 (go_drop6 (K μ3 t3))
  refine go_if_ne C (pc := 1197) (tgt := 1212) dL_law_1197 (by decide) (fun _ => fin) (fun z => ?_)
  refine go_aload3 C (pc := 1200) dL_law_1200 ?_
  refine go_iconst C (pc := 1201) (v := 0) (by decide) dL_law_1201 ?_
  refine go_laldO C (pc := 1202) dL_law_1202 ?_
  refine go_long (congrArg Int32.toInt64 (t2 z)) ?_
  refine go_iload6 C (pc := 1203) dL_law_1203 ?_
  refine go_i2l C (pc := 1205) dL_law_1205 ?_
  refine go_lcmp C (pc := 1206) dL_law_1206 ?_
  exact go_if_eq C (pc := 1207) (tgt := 1212) dL_law_1207 (by decide) (fun _ => fin) (fun y => absurd ((lg_cmp_eq _ _).mpr rfl) y)
