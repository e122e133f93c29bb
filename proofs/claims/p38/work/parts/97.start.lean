/-! ===== the law, from its entry ===== -/
section WS
variable {p : Program} {l : Launch} {e : Env} {R : Room} {s : State} {m : MethodId} {args : Array Value} {below : List Frame} {meth : Method} {c : Code} {cells slots : Nat} {Q : State → Prop} {A : Nat → Prop} {D : va_G} {ad : Nat → Nat} {cI cL : ClassId} {nL : Nat} {cc : ByteArray} {own : String} {Ts : List Cond} {pc : Nat} {st : List Value} {ws : va_W} {μ : Mem} {lv : List (Option Value)}
theorem gw_store (C : Cg p l s m args meth c cc nL Ts own A D cI cL) {f : Fin 4} {x : Nat} {lv' : List (Option Value)} (i : Nat) (hf : (f : Nat) = i) (hi : i < lv.length) (hlv : lv.set i (some (.ref x)) = lv') (hdg : decode cc pc = .ok (.astore_n f, 1)) (k : Gw p l e R s m args below meth c cells slots Q A D nL (pc + 1) lv' st ws) : Gw p l e R s m args below meth c cells slots Q A D nL pc lv (.ref x :: st) ws := by
  subst hlv
  exact fun ls H locs hl hP hD hS => lv_astore_n C.1.1 C.1.2.1 hdg hf (lh_has hl) (by rw [← hl.2.2.1]; exact hi) rfl (fun ls' h' => k ls' H locs (lh_set (i := i) hl rfl hi h') hP hD hS)
theorem gw_istore2 (C : Cg p l s m args meth c cc nL Ts own A D cI cL) {x : Int32} {lv' : List (Option Value)} (hi : 2 < lv.length) (hlv : lv.set 2 (some (.int x)) = lv') (hdg : decode cc pc = .ok (.istore_n 2, 1)) (k : Gw p l e R s m args below meth c cells slots Q A D nL (pc + 1) lv' st ws) : Gw p l e R s m args below meth c cells slots Q A D nL pc lv (.int x :: st) ws := by
  subst hlv
  exact fun ls H locs hl hP hD hS => lv_istore_n C.1.1 C.1.2.1 hdg rfl (lh_has hl) (by rw [← hl.2.2.1]; exact hi) rfl (fun ls' h' => k ls' H locs (lh_set (i := 2) hl rfl hi h') hP hD hS)
theorem gw_go (h : ws = wd ad cI cL μ) (k : adOK ad → (∀ q, AW ad q → A q) → Go p l e R s m args below meth c cells slots Q A D ad cI cL nL pc lv st μ) : Gw p l e R s m args below meth c cells slots Q A D nL pc lv st ws := by
  subst h
  intro ls H locs hl hP hD hS
  refine k (fun i j hi hj he => ?_) (fun q hq => ?_) ls H locs hl hP hS
  · exact hD.1 i j _ _ (wd_get ad cI cL μ hi) (wd_get ad cI cL μ hj) he
  · obtain ⟨i, hi, rfl⟩ := hq
    exact hD.2 i _ (wd_get ad cI cL μ hi)
end WS
theorem K_start {s : State} {b : Nat} (hts : ∀ w ∈ lw_tbl, w.before #[Value.ref b] s = true) : ∃ (D : va_G) (cI cL : ClassId), va_K D vwCl [(cI, .int)] s := by
  obtain ⟨c0, i0, k0⟩ := u_known (C := RX0) (T := TX0) (N := 2) (n := 2) hts iw_X0 (hts _ it_X0)
  obtain ⟨c1, i1, k1⟩ := u_known (C := RX1) (T := TX1) (N := 3) (n := 3) hts iw_X1 (hts _ it_X1)
  obtain ⟨c2, i2, k2⟩ := u_known (C := RX2) (T := TX2) (N := 3) (n := 3) hts iw_X2 (hts _ it_X2)
  obtain ⟨c3, i3, k3⟩ := u_known (C := RX3) (T := TX3) (N := 1) (n := 1) hts iw_X3 (hts _ it_X3)
  obtain ⟨c4, i4, k4⟩ := u_known (C := RX4) (T := TX4) (N := 2) (n := 2) hts iw_X4 (hts _ it_X4)
  obtain ⟨c5, i5, k5⟩ := u_known (C := RX5) (T := TX5) (N := 3) (n := 3) hts iw_X5 (hts _ it_X5)
  obtain ⟨c6, i6, k6⟩ := u_known (C := RX6) (T := TX6) (N := 3) (n := 3) hts iw_X6 (hts _ it_X6)
  obtain ⟨c7, i7, k7⟩ := u_known (C := RX7) (T := TX7) (N := 8) (n := 8) hts iw_X7 (hts _ it_X7)
  obtain ⟨cI, kI, eI, a1, a2, a3⟩ := Cond.arrayClass_spec (hts _ ac_I)
  refine ⟨(fun k => ([c0, c1, c2, c3, c4, c5, c6, c7] : List ClassId).getD k c0, fun k => ([i0, i1, i2, i3, i4, i5, i6, i7] : List (Nat → Nat)).getD k i0), cI, cI, fun k q hq => ?_, fun k q hq => ?_⟩
  · match k, hq with
    | 0, hq => cases hq; exact k0
    | 1, hq => cases hq; exact k1
    | 2, hq => cases hq; exact k2
    | 3, hq => cases hq; exact k3
    | 4, hq => cases hq; exact k4
    | 5, hq => cases hq; exact k5
    | 6, hq => cases hq; exact k6
    | 7, hq => cases hq; exact k7
    | k + 8, hq => simp [vwCl] at hq
  · match k, hq with
    | 0, hq => cases hq; exact ⟨fun n z => ⟨fun k h => (by cases h), kI, a2, eI, a3⟩, a1⟩
    | k + 1, hq => simp at hq
theorem N_start {s : State} {b : Nat} (hts : ∀ w ∈ lw_tbl, w.before #[Value.ref b] s = true) : Nst s :=
  ⟨fun q hq => va_Nw.of rfl (hts _ (nf_in _ (List.mem_map.mpr ⟨q, hq, rfl⟩))), fun q hq => va_Nw.of rfl (hts _ (nm_in _ (List.mem_map.mpr ⟨q, hq, rfl⟩)))⟩
abbrev μz : Mem := fun _ _ => 0
set_option maxRecDepth 100000 in
set_option maxHeartbeats 8000000 in
/-- the law, from its entry -/
theorem whole_start {p : Program} {e : Env} {s : State} {m : MethodId} {below : List Frame} {meth : Method} {c : Code} (l : Launch) (hflags : l.flags = flags0) {b L : Nat} {xs : Nat → Int32} (hL : L ≤ 260) (C0 : lw_At p s m meth c b L xs) : W p l e room_1 s m #[Value.ref b] below meth c s.heap [] 0 0 (lw_Z below #[Value.ref b] s) (entryFrame m ([Value.ref b] : List Value).toArray 5) := by
  obtain ⟨hx, hb, hr, hml, hown, hts, hX, hbl, hlocks, hgv⟩ := id C0
  obtain ⟨D, cI, cL, hK⟩ := K_start hts
  have hN := N_start hts
  have C : Cg p l s m #[Value.ref b] meth c cL_law 5 lw_tbl RL (AL s) D cI cL := ⟨⟨hx, hb, hml, hown, hts⟩, hlocks, hK, hN, fun _ h => h, hflags⟩
  rw [lg_entry_eq]
  suffices k : Gw p l e room_1 s m #[Value.ref b] below meth c 0 0 (lw_Z below #[Value.ref b] s) (AL s) D 5 0 ([Value.ref b].map some ++ List.replicate (5 - [Value.ref b].length) none) [] [] from k _ s.heap [] (lh_entry [.ref b] 5 rfl (Nat.le_of_ble_eq_true rfl)) (fun k q h => by simp at h) ⟨fun i j p q h => by simp at h, fun k q h => by simp at h⟩ va_S.rf
  refine gw_new C (pc := 0) (ci := 7) (fs := [.null, .null, .null, .null, .int 0, .null, .null, .null]) (T := TX7) (N := 8) (ty0 := tyX7) rfl iw_X7 tyX7_ok cl_X7 it_X7 ini_X7 (fun j hj => by rcases (show j = 0 ∨ j = 1 ∨ j = 2 ∨ j = 3 ∨ j = 4 ∨ j = 5 ∨ j = 6 ∨ j = 7 by omega) with rfl | rfl | rfl | rfl | rfl | rfl | rfl | rfl <;> rfl) ⟨Nat.le_of_ble_eq_true rfl, Nat.le_of_ble_eq_true rfl⟩ dL_law_0 (fun q0 => ?_)
  refine gw_ws (ws' := [(q0, .inr (7, [.null, .null, .null, .null, .int 0, .null, .null, .null]))]) rfl ?_
  refine gw_dup C (pc := 3) rfl dL_law_3 ?_
  refine gw_init C (pc := 4) (wr := []) (c_X7_init hflags q0 (D := D) (cI := cI) (cL := cL)) rfl rfl [0] [] rfl rfl rfl rfl rfl (by decide) gL_law_X7_init rfl ini_X7 ml_X7 im_X7 rfl yok_X7_init ⟨rfl, rfl⟩ ⟨Nat.le_of_ble_eq_true rfl, Nat.le_of_ble_eq_true rfl⟩ (Nat.le_of_ble_eq_true rfl) ⟨Nat.le_of_ble_eq_true rfl, Nat.le_of_ble_eq_true rfl⟩ dL_law_4 (fun u => ?_)
  refine gw_ws (ws' := w_X7 q0 cI u) rfl ?_
  refine gw_store C (pc := 7) (lv' := [some (.ref b), some (.ref q0), none, none, none]) 1 rfl (Nat.le_of_ble_eq_true rfl) rfl dL_law_7 ?_
  refine gw_iconst C (pc := 8) (v := 0) (by decide) dL_law_8 ?_
  refine gw_istore2 C (pc := 9) (lv' := [some (.ref b), some (.ref q0), some (.int 0), none, none]) (Nat.le_of_ble_eq_true rfl) rfl dL_law_9 ?_
  refine gw_go (cI := cI) (cL := cL) (ad := fun k => ([q0, u 1, u 2, u 3, u 4, u 5, u 6, u 7, u 8, u 9, u 10, u 11, u 12, u 13, u 14, u 15, u 16, u 17, u 18, u 19, u 20, u 21, u 22, u 23, u 24] : List Nat).getD k 0) (μ := μz) rfl (fun hok hAW => ?_)
  generalize hadd : (fun k => ([q0, u 1, u 2, u 3, u 4, u 5, u 6, u 7, u 8, u 9, u 10, u 11, u 12, u 13, u 14, u 15, u 16, u 17, u 18, u 19, u 20, u 21, u 22, u 23, u 24] : List Nat).getD k 0) = ad at hok hAW ⊢
  have e0 : q0 = ad 0 := by rw [← hadd]; rfl
  have CL : CxL p l s m b meth c D ad cI cL L xs := ⟨⟨⟨hx, hb, hml, hown, hts⟩, hlocks, hK, hN, hok, hAW, hflags⟩, hX, hbl, hL⟩
  refine go_lv (lv' := [some (.ref b), some (.ref (ad 0)), some (.int (nI 0)), none, none]) (by rw [e0]; rfl) ?_
  refine go_widen (k := 25) (n := 816) (Nat.le_of_ble_eq_true rfl) (Nat.le_of_ble_eq_true rfl) ?_
  refine law_loop CL (fun lv μ => ?_) 46 0 μz rfl ⟨0, 0, fun _ => 0, rfl, rfl, rfl, ⟨by omega, fun i h => ?_, fun i j _ h => ?_, fun i j _ _ => (show bt 0 j = bt 0 i by rw [b_0, b_0])⟩, 0, fun _ _ => 0, 0, by omega, rfl, rfl, by omega, fun t h => absurd h (Nat.not_lt_zero t)⟩
  rotate_left
  · rw [b_0] at h; cases h
  · rw [b_0] at h; cases h
  intro ls H locs hl hP hS
  refine va_forget (fun q hq => hS.2.2 q hq) ?_
  refine W.widen (k := 600172) (n := 7300668) (Nat.le_of_ble_eq_true rfl) (Nat.le_of_ble_eq_true rfl) ?_
  refine lv_iconst (v := 1) hx hb dL_law_98 (by decide) ?_
  refine W.base ?_
  exact lw_ret (Drawn.sameBut.refl s.drawn lw_cs) hx hb hr hlocks dL_law_99
