/-! ===== the law, from its entry ===== -/
section WS
variable {p : Program} {l : Launch} {e : Env} {R : Room} {s : State} {m : MethodId} {args : Array Value} {below : List Frame} {meth : Method} {c : Code} {cells slots : Nat} {Q : State → Prop} {A : Nat → Prop} {D : va_G} {ad : Nat → Nat} {cI cL : ClassId} {nL : Nat} {cc : ByteArray} {own : String} {Ts : List Cond} {pc : Nat} {st : List Value} {ws : va_W} {μ : Mem} {lv : List (Option Value)}
theorem gw_store (C : Cg p l s m args meth c cc nL Ts own A D cI cL) {f : Fin 4} {x : Nat} {lv' : List (Option Value)} (i : Nat) (hf : (f : Nat) = i) (hi : i < lv.length) (hlv : lv.set i (some (.ref x)) = lv') (hdg : decode cc pc = .ok (.astore_n f, 1)) (k : Gw p l e R s m args below meth c cells slots Q A D nL (pc + 1) lv' st ws) : Gw p l e R s m args below meth c cells slots Q A D nL pc lv (.ref x :: st) ws := by
  subst hlv
  exact fun ls H locs hl hP hD hS => lv_astore_n C.1.1 C.1.2.1 hdg hf (lh_has hl) (by rw [← hl.2.2.1]; exact hi) rfl (fun ls' h' => k ls' H locs (lh_set (i := i) hl rfl hi h') hP hD hS)
theorem gw_istore4 (C : Cg p l s m args meth c cc nL Ts own A D cI cL) {x : Int32} {lv' : List (Option Value)} (hi : 4 < lv.length) (hlv : lv.set 4 (some (.int x)) = lv') (hdg : decode cc pc = .ok (.istore 4, 2)) (k : Gw p l e R s m args below meth c cells slots Q A D nL (pc + 2) lv' st ws) : Gw p l e R s m args below meth c cells slots Q A D nL pc lv (.int x :: st) ws := by
  subst hlv
  exact fun ls H locs hl hP hD hS => lv_istore C.1.1 C.1.2.1 hdg (lh_has hl) (by rw [← hl.2.2.1]; exact hi) rfl (fun ls' h' => k ls' H locs (lh_set (i := 4) hl rfl hi h') hP hD hS)
theorem gw_go (h : ws = wd ad cI cL μ) (k : adOK ad → (∀ q, AW ad q → A q) → Go p l e R s m args below meth c cells slots Q A D ad cI cL nL pc lv st μ) : Gw p l e R s m args below meth c cells slots Q A D nL pc lv st ws := by
  subst h
  intro ls H locs hl hP hD hS
  refine k (fun i j hi hj he => ?_) (fun q hq => ?_) ls H locs hl hP hS
  · exact hD.1 i j _ _ (wd_get ad cI cL μ hi) (wd_get ad cI cL μ hj) he
  · obtain ⟨i, hi, rfl⟩ := hq
    exact hD.2 i _ (wd_get ad cI cL μ hi)
end WS
theorem K_start {s : State} {b : Nat} (hts : ∀ w ∈ lw_tbl, w.before #[Value.ref b] s = true) : ∃ (D : va_G) (cI cL : ClassId), va_K D vwCl [(cI, .int), (cL, .long)] s := by
  obtain ⟨c0, i0, k0⟩ := u_known (C := RX0) (T := TX0) (N := 2) (n := 2) hts iw_X0 (hts _ it_X0)
  obtain ⟨c1, i1, k1⟩ := u_known (C := RX1) (T := TX1) (N := 3) (n := 3) hts iw_X1 (hts _ it_X1)
  obtain ⟨c2, i2, k2⟩ := u_known (C := RX2) (T := TX2) (N := 3) (n := 3) hts iw_X2 (hts _ it_X2)
  obtain ⟨c3, i3, k3⟩ := u_known (C := RX3) (T := TX3) (N := 1) (n := 1) hts iw_X3 (hts _ it_X3)
  obtain ⟨c4, i4, k4⟩ := u_known (C := RX4) (T := TX4) (N := 2) (n := 2) hts iw_X4 (hts _ it_X4)
  obtain ⟨c5, i5, k5⟩ := u_known (C := RX5) (T := TX5) (N := 3) (n := 3) hts iw_X5 (hts _ it_X5)
  obtain ⟨c6, i6, k6⟩ := u_known (C := RX6) (T := TX6) (N := 3) (n := 3) hts iw_X6 (hts _ it_X6)
  obtain ⟨c7, i7, k7⟩ := u_known (C := RX7) (T := TX7) (N := 8) (n := 8) hts iw_X7 (hts _ it_X7)
  obtain ⟨c8, i8, k8⟩ := u_known (C := RX8) (T := TX8) (N := 13) (n := 13) hts iw_X8 (hts _ it_X8)
  obtain ⟨cI, kI, eI, a1, a2, a3⟩ := Cond.arrayClass_spec (hts _ ac_I)
  obtain ⟨cL, kL, eL, b1, b2, b3⟩ := Cond.arrayClass_spec (hts _ ac_L)
  refine ⟨(fun k => ([c0, c1, c2, c3, c4, c5, c6, c7, c8] : List ClassId).getD k c0, fun k => ([i0, i1, i2, i3, i4, i5, i6, i7, i8] : List (Nat → Nat)).getD k i0), cI, cL, fun k q hq => ?_, fun k q hq => ?_⟩
  · match k, hq with
    | 0, hq => cases hq; exact k0
    | 1, hq => cases hq; exact k1
    | 2, hq => cases hq; exact k2
    | 3, hq => cases hq; exact k3
    | 4, hq => cases hq; exact k4
    | 5, hq => cases hq; exact k5
    | 6, hq => cases hq; exact k6
    | 7, hq => cases hq; exact k7
    | 8, hq => cases hq; exact k8
    | k + 9, hq => simp [vwCl] at hq
  · match k, hq with
    | 0, hq => cases hq; exact ⟨fun n z => ⟨fun k h => (by cases h), kI, a2, eI, a3⟩, a1⟩
    | 1, hq => cases hq; exact ⟨fun n z => ⟨fun k h => (by cases h), kL, b2, eL, b3⟩, b1⟩
    | k + 2, hq => simp at hq
theorem N_start {s : State} {b : Nat} (hts : ∀ w ∈ lw_tbl, w.before #[Value.ref b] s = true) : Nst s :=
  ⟨fun q hq => va_Nw.of rfl (hts _ (nf_in _ (List.mem_map.mpr ⟨q, hq, rfl⟩))), fun q hq => va_Nw.of rfl (hts _ (nm_in _ (List.mem_map.mpr ⟨q, hq, rfl⟩)))⟩
theorem E_start {s : State} {b : Nat} {ad : Nat → Nat} (hts : ∀ w ∈ lw_tbl, w.before #[Value.ref b] s = true) (hgv : (Jvm.Cond.and given_1 narrow_1).before #[Value.ref b] s = true) (h7 : ∃ c7 : ClassId, s.vm.findClass RX7 = some c7) (hA : ∀ a : Nat, a < s.heap.size → ¬ AW ad a) : EXs ad s s.heap := by
  have hf := flat_of_before _ hgv
  obtain ⟨c7, h7⟩ := h7
  refine ⟨vx_Zqof (hts _ ls_U) (hts _ ini_T) (hf _ ru_in) hA, vx_Zqof (hts _ ls_N) (hts _ ini_T) (hf _ rn_in) hA, fun q hq => ?_, fun C hC => va_Nw.of rfl (hts _ (de_in _ (List.mem_map.mpr ⟨C, hC, rfl⟩))), fun C hC => va_Nw.of rfl (hts _ (ca_in _ (List.mem_map.mpr ⟨C, hC, rfl⟩))), fun C hC T hT hne => va_Nc.of (hf _ ((nc_in C hC T hT).resolve_left hne))⟩
  have hw := hts _ (st_in _ (List.mem_map.mpr ⟨q, hq, rfl⟩))
  obtain ⟨k, cf, i, a, -, -, -, -, -, ev⟩ := Cond.stringRef_spec h7 hw
  exact ⟨a, vk_R.of hw ev⟩
abbrev μz : Mem := fun _ _ => 0
set_option maxRecDepth 100000 in
set_option maxHeartbeats 8000000 in
/-- the law, from its entry -/
theorem whole_start {p : Program} {e : Env} {s : State} {m : MethodId} {below : List Frame} {meth : Method} {c : Code} (l : Launch) (hflags : l.flags = flags0) {b L : Nat} {xs : Nat → Int32} (hL : L ≤ 1536) (C0 : lw_At p s m meth c b L xs) : W p l e room_1 s m #[Value.ref b] below meth c s.heap [] 0 0 (lw_Z below #[Value.ref b] s) (entryFrame m ([Value.ref b] : List Value).toArray 9) := by
  obtain ⟨hx, hb, hr, hml, hown, hts, hX, hbl, hlocks, hgv⟩ := id C0
  obtain ⟨D, cI, cL, hK⟩ := K_start hts
  have hN := N_start hts
  have h7 : ∃ c7 : ClassId, s.vm.findClass RX7 = some c7 := ⟨_, (hK.1 7 _ rfl).2.1⟩
  have C : Cg p l s m #[Value.ref b] meth c cL_law 9 lw_tbl RL (AL s) D cI cL := ⟨⟨hx, hb, hml, hown, hts⟩, hlocks, hK, hN, fun _ h => h, hflags⟩
  rw [lg_entry_eq]
  suffices k : Gw p l e room_1 s m #[Value.ref b] below meth c 0 0 (lw_Z below #[Value.ref b] s) (AL s) D 9 0 ([Value.ref b].map some ++ List.replicate (9 - [Value.ref b].length) none) [] [] from k _ s.heap [] (lh_entry [.ref b] 9 rfl (Nat.le_of_ble_eq_true rfl)) (fun k q h => by simp at h) ⟨fun i j p q h => by simp at h, fun k q h => by simp at h⟩ va_S.rf
  refine gw_new C (pc := 0) (ci := 7) (fs := [.null, .null, .null, .null, .int 0, .null, .null, .null]) (T := TX7) (N := 8) (ty0 := tyX7) rfl iw_X7 tyX7_ok cl_X7 it_X7 ini_X7 (fun j hj => by rcases (show j = 0 ∨ j = 1 ∨ j = 2 ∨ j = 3 ∨ j = 4 ∨ j = 5 ∨ j = 6 ∨ j = 7 by omega) with rfl | rfl | rfl | rfl | rfl | rfl | rfl | rfl <;> rfl) ⟨Nat.le_of_ble_eq_true rfl, Nat.le_of_ble_eq_true rfl⟩ dL_law_0 (fun q0 => ?_)
  refine gw_ws (ws' := [(q0, .inr (7, [.null, .null, .null, .null, .int 0, .null, .null, .null]))]) rfl ?_
  refine gw_dup C (pc := 3) rfl dL_law_3 ?_
  refine gw_init C (pc := 4) (wr := []) (c_X7_init hflags q0 (D := D) (cI := cI) (cL := cL)) rfl rfl [0] [] rfl rfl rfl rfl rfl (by decide) gL_law_X7_init rfl ini_X7 ml_X7 im_X7 rfl yok_X7_init ⟨rfl, rfl⟩ ⟨Nat.le_of_ble_eq_true rfl, Nat.le_of_ble_eq_true rfl⟩ (Nat.le_of_ble_eq_true rfl) ⟨Nat.le_of_ble_eq_true rfl, Nat.le_of_ble_eq_true rfl⟩ dL_law_4 (fun u => ?_)
  refine gw_ws (ws' := w_X7 q0 cI u) rfl ?_
  refine gw_store C (pc := 7) (lv' := [some (.ref b), some (.ref q0), none, none, none, none, none, none, none]) 1 rfl (Nat.le_of_ble_eq_true rfl) rfl dL_law_7 ?_
  refine gw_new C (pc := 8) (ci := 8) (fs := [.null, .null, .int 0, .null, .int 0, .null, .int 0, .int 0, .null, .null, .null, .int 0, .int 0]) (T := TX8) (N := 13) (ty0 := tyX8) rfl iw_X8 tyX8_ok cl_X8 it_X8 ini_X8 (fun j hj => by rcases (show j = 0 ∨ j = 1 ∨ j = 2 ∨ j = 3 ∨ j = 4 ∨ j = 5 ∨ j = 6 ∨ j = 7 ∨ j = 8 ∨ j = 9 ∨ j = 10 ∨ j = 11 ∨ j = 12 by omega) with rfl | rfl | rfl | rfl | rfl | rfl | rfl | rfl | rfl | rfl | rfl | rfl | rfl <;> rfl) ⟨Nat.le_of_ble_eq_true rfl, Nat.le_of_ble_eq_true rfl⟩ dL_law_8 (fun q25 => ?_)
  refine gw_dup C (pc := 11) rfl dL_law_11 ?_
  refine gw_init C (pc := 12) (wr := w_X7 q0 cI u) (c_X8_init hflags q25 (D := D) (cI := cI) (cL := cL)) rfl rfl [25] [0, 1, 2, 3, 4, 5, 6, 7, 8, 9, 10, 11, 12, 13, 14, 15, 16, 17, 18, 19, 20, 21, 22, 23, 24] rfl rfl rfl rfl rfl (by decide) gL_law_X8_init rfl ini_X8 ml_X8 im_X8 rfl yok_X8_init ⟨rfl, rfl⟩ ⟨Nat.le_of_ble_eq_true rfl, Nat.le_of_ble_eq_true rfl⟩ (Nat.le_of_ble_eq_true rfl) ⟨Nat.le_of_ble_eq_true rfl, Nat.le_of_ble_eq_true rfl⟩ dL_law_12 (fun v => ?_)
  refine gw_store C (pc := 15) (lv' := [some (.ref b), some (.ref q0), some (.ref q25), none, none, none, none, none, none]) 2 rfl (Nat.le_of_ble_eq_true rfl) rfl dL_law_15 ?_
  refine gw_iconst C (pc := 16) (v := nI 1) (by decide +kernel) dL_law_16 ?_
  refine gw_newL C (pc := 17) (N := 1) ac_L (by decide) (by decide) (by decide) ⟨Nat.le_of_ble_eq_true rfl, Nat.le_of_ble_eq_true rfl⟩ dL_law_17 (fun q33 => ?_)
  refine gw_store C (pc := 19) (lv' := [some (.ref b), some (.ref q0), some (.ref q25), some (.ref q33), none, none, none, none, none]) 3 rfl (Nat.le_of_ble_eq_true rfl) rfl dL_law_19 ?_
  refine gw_iconst C (pc := 20) (v := 0) (by decide) dL_law_20 ?_
  refine gw_istore4 C (pc := 21) (lv' := [some (.ref b), some (.ref q0), some (.ref q25), some (.ref q33), some (.int 0), none, none, none, none]) (Nat.le_of_ble_eq_true rfl) rfl dL_law_21 ?_
  refine gw_go (ad := fun k => ([q0, u 1, u 2, u 3, u 4, u 5, u 6, u 7, u 8, u 9, u 10, u 11, u 12, u 13, u 14, u 15, u 16, u 17, u 18, u 19, u 20, u 21, u 22, u 23, u 24, q25, v 1, v 2, v 3, v 4, v 5, v 6, v 7, q33] : List Nat).getD k 0) (μ := μz) rfl (fun hok hAW => ?_)
  generalize hadd : (fun k => ([q0, u 1, u 2, u 3, u 4, u 5, u 6, u 7, u 8, u 9, u 10, u 11, u 12, u 13, u 14, u 15, u 16, u 17, u 18, u 19, u 20, u 21, u 22, u 23, u 24, q25, v 1, v 2, v 3, v 4, v 5, v 6, v 7, q33] : List Nat).getD k 0) = ad at hok hAW ⊢
  have e0 : q0 = ad 0 := by rw [← hadd]; rfl
  have e25 : q25 = ad 25 := by rw [← hadd]; rfl
  have e33 : q33 = ad 33 := by rw [← hadd]; rfl
  have CL : CxL p l s m b meth c D ad cI cL L xs := ⟨⟨⟨hx, hb, hml, hown, hts⟩, hlocks, hK, hN, hok, hAW, hflags⟩, E_start hts hgv h7 (fun a ha hz => absurd (hAW a hz) (Nat.not_le.mpr ha)), hX, hbl, hL⟩
  refine go_lv (lv' := lvN b ad 0) (by rw [e0, e25, e33]; rfl) ?_
  refine go_widen (k := 34 + 4 * 0) (n := 821 + 24 * 0) (Nat.le_of_ble_eq_true rfl) (Nat.le_of_ble_eq_true rfl) ?_
  refine law_loop CL (fun cells slots lv μ h1 h2 => ?_) (L + 1) 0 μz (by omega) (by omega) inv_0
  intro ls H locs hl hP hS
  refine va_forget (fun q hq => hS.2.2 q hq) ?_
  refine W.widen (k := 626158) (n := 7217629) h1 h2 ?_
  refine lv_iconst (v := 1) hx hb dL_law_1743 (by decide) ?_
  refine W.base ?_
  exact lw_ret (Drawn.sameBut.refl s.drawn lw_cs) hx hb hr hlocks dL_law_1744
