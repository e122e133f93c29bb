set_option maxRecDepth 20000 in
set_option maxHeartbeats 4000000 in
theorem cs_0 {p : Program} {l : Launch} {e : Env} {s : State} {m : MethodId} {below : List Frame} {meth : Method} {c : Code} {cells slots : Nat} {Q : State → Prop} {D : va_G} {ad : Nat → Nat} {cI cL : ClassId} {b L : Nat} {xs : Nat → Int32} {μ : Mem} (CL : CxL p l s m b meth c D ad cI cL L xs) {t : Nat} (ht : 3 * t + 2 < L) (hcs : cells + 4 ≤ room_1.cells ∧ slots + 24 ≤ room_1.slots) (hI : Inv μ)
    (K : ∀ μ', Inv μ' → Go p l e room_1 s m #[Value.ref b] below meth c (cells + 4) (slots + 24) Q (AL s) D ad cI cL 9 1737 (lvN b ad t) [] μ') : Go p l e room_1 s m #[Value.ref b] below meth c cells slots Q (AL s) D ad cI cL 9 192 (lvN b ad t) [] μ := by
  obtain ⟨n, q, h, w, bs, H⟩ := hI
  have C := CL.1
  have hfl := C.fl
  have hok := C.ok
  refine go_lv (lv' := [some (.ref b), some (.ref (ad 0)), some (.ref (ad 25)), some (.ref (ad 33)), some (.int (nI (3 * t))), none, none, none, none]) rfl ?_
  refine go_aload1 C (pc := 192) dL_law_192 ?_
  refine go_aload3 C (pc := 193) dL_law_193 ?_
  refine go_ciL C CL.2.1 (pc := 194) (As := [.ref (ad 0), .ref (ad 33)]) (st := []) (h_plant hfl hok (c_X7_plant hfl hok μ H.1 H.2.1 q h H.ch) (fun E hx => hx.2)) rfl rfl gL_law_L_plant rfl yok_L_plant ⟨rfl, rfl⟩ ⟨Nat.le_of_ble_eq_true rfl, Nat.le_of_ble_eq_true rfl⟩ (Nat.le_of_ble_eq_true rfl) hcs dL_law_194 (fun r5 μ2 hc => ?_)
  have hs : same μ μ2 CC := hc.cc (fun v μ9 hf => by obtain ⟨-, -, -, -, gs⟩ := hf; exact gs.mono (by decide))
  refine go_istore5 C (pc := 197) dL_law_197 ?_
  refine go_aload2 C (pc := 199) dL_law_199 ?_
  refine go_ciV0 C (pc := 200) obj_25 (c_X8_plant C.fl C.ok μ2 (H.mo hs) H.2.1 (H.mh hs)) gL_law_X8_plant rfl rfl yok_X8_plant ⟨rfl, rfl⟩ ⟨Nat.le_of_ble_eq_true rfl, Nat.le_of_ble_eq_true rfl⟩ (Nat.le_of_ble_eq_true rfl) hcs dL_law_200 (fun r6 μ3 hm => ?_)
  refine go_istore6 C (pc := 203) dL_law_203 ?_
  obtain ⟨t1, t2, t3⟩ : TailOK r5 r6 μ3 := m_plant H hc hm
  refine go_aload2 C (pc := 205) dL_law_205 ?_
  refine go_ciV0 C (pc := 206) obj_25 (c_X8_thrown C.fl C.ok μ3) gL_law_X8_thrown rfl rfl yok_X8_thrown ⟨rfl, rfl⟩ ⟨Nat.le_of_ble_eq_true rfl, Nat.le_of_ble_eq_true rfl⟩ (Nat.le_of_ble_eq_true rfl) hcs dL_law_206 (fun r7 μ4 h7 => ?_)
  obtain ⟨e7, e8⟩ := h7
  subst e7
  refine go_mem e8 ?_
  refine go_iload5 C (pc := 209) dL_law_209 ?_
  refine go_icmp_eq C (pc := 211) (tgt := 216) dL_law_211 (by decide) (fun _ => ?_) (fun z => absurd t1 z)
  refine go_iload5 C (pc := 216) dL_law_216 ?_
  have fin : Go p l e room_1 s m #[Value.ref b] below meth c (cells + 4) (slots + 24) Q (AL s) D ad cI cL 9 233 [some (.ref b), some (.ref (ad 0)), some (.ref (ad 25)), some (.ref (ad 33)), some (.int (nI (3 * t))), some (.int r5), some (.int r6), none, none] [] μ3 := by
    refine go_goto C (pc := 233) (tgt := 1737) dL_law_233 (by decide) ?_
    exact go_drop5 (go_drop6 (K μ3 t3))
  refine go_if_ne C (pc := 218) (tgt := 233) dL_law_218 (by decide) (fun _ => fin) (fun z => ?_)
  refine go_aload3 C (pc := 221) dL_law_221 ?_
  refine go_iconst C (pc := 222) (v := 0) (by decide) dL_law_222 ?_
  refine go_laldO C (pc := 223) dL_law_223 ?_
  refine go_long (congrArg Int32.toInt64 (t2 z)) ?_
  refine go_iload6 C (pc := 224) dL_law_224 ?_
  refine go_i2l C (pc := 226) dL_law_226 ?_
  refine go_lcmp C (pc := 227) dL_law_227 ?_
  exact go_if_eq C (pc := 228) (tgt := 233) dL_law_228 (by decide) (fun _ => fin) (fun y => absurd ((lg_cmp_eq _ _).mpr rfl) y)
set_option maxRecDepth 20000 in
set_option maxHeartbeats 4000000 in
theorem cs_1 {p : Program} {l : Launch} {e : Env} {s : State} {m : MethodId} {below : List Frame} {meth : Method} {c : Code} {cells slots : Nat} {Q : State → Prop} {D : va_G} {ad : Nat → Nat} {cI cL : ClassId} {b L : Nat} {xs : Nat → Int32} {μ : Mem} (CL : CxL p l s m b meth c D ad cI cL L xs) {t : Nat} (ht : 3 * t + 2 < L) (hcs : cells + 4 ≤ room_1.cells ∧ slots + 24 ≤ room_1.slots) (hI : Inv μ)
    (K : ∀ μ', Inv μ' → Go p l e room_1 s m #[Value.ref b] below meth c (cells + 4) (slots + 24) Q (AL s) D ad cI cL 9 1737 (lvN b ad t) [] μ') : Go p l e room_1 s m #[Value.ref b] below meth c cells slots Q (AL s) D ad cI cL 9 236 (lvN b ad t) [] μ := by
  obtain ⟨n, q, h, w, bs, H⟩ := hI
  have C := CL.1
  have hfl := C.fl
  have hok := C.ok
  refine go_lv (lv' := [some (.ref b), some (.ref (ad 0)), some (.ref (ad 25)), some (.ref (ad 33)), some (.int (nI (3 * t))), none, none, none, none]) rfl ?_
  refine go_aload1 C (pc := 236) dL_law_236 ?_
  refine go_aload0 C (pc := 237) dL_law_237 ?_
  refine go_iload4 C (pc := 238) dL_law_238 ?_
  refine go_iconst C (pc := 240) (v := 1) (by decide) dL_law_240 ?_
  refine go_iadd C (pc := 241) dL_law_241 ?_
  refine go_sld CL (pc := 242) (j := 3 * t + 1) (nI_3 t) (by omega) dL_law_242 ?_
  refine go_aload3 C (pc := 243) dL_law_243 ?_
  refine go_ciL C CL.2.1 (pc := 244) (As := [.ref (ad 0), .int (xs (3 * t + 1)), .ref (ad 33)]) (st := []) (h_uproot hfl hok (xs (3 * t + 1)) (c_X7_uproot hfl hok μ (xs (3 * t + 1)) H.1 H.2.1 q h H.ch) (fun E hx => (dem1_E hx).2)) rfl rfl gL_law_L_uproot rfl yok_L_uproot ⟨rfl, rfl⟩ ⟨Nat.le_of_ble_eq_true rfl, Nat.le_of_ble_eq_true rfl⟩ (Nat.le_of_ble_eq_true rfl) hcs dL_law_244 (fun r5 μ2 hc => ?_)
  have hs : same μ μ2 CC := hc.cc (fun v μ9 hf => by obtain ⟨_, -, -, -, -, -, -, -, gs⟩ := hf; exact gs.mono (by decide))
  refine go_istore5 C (pc := 247) dL_law_247 ?_
  refine go_aload2 C (pc := 249) dL_law_249 ?_
  refine go_aload0 C (pc := 250) dL_law_250 ?_
  refine go_iload4 C (pc := 251) dL_law_251 ?_
  refine go_iconst C (pc := 253) (v := 1) (by decide) dL_law_253 ?_
  refine go_iadd C (pc := 254) dL_law_254 ?_
  refine go_sld CL (pc := 255) (j := 3 * t + 1) (nI_3 t) (by omega) dL_law_255 ?_
  refine go_ciV1 C (pc := 256) obj_25 (c_X8_uproot C.fl C.ok μ2 (xs (3 * t + 1)) (H.mo hs) H.2.1 (H.mh hs)) gL_law_X8_uproot rfl rfl yok_X8_uproot ⟨rfl, rfl⟩ ⟨Nat.le_of_ble_eq_true rfl, Nat.le_of_ble_eq_true rfl⟩ (Nat.le_of_ble_eq_true rfl) hcs dL_law_256 (fun r6 μ3 hm => ?_)
  refine go_istore6 C (pc := 259) dL_law_259 ?_
  obtain ⟨t1, t2, t3⟩ : TailOK r5 r6 μ3 := m_uproot H hc hm
  refine go_aload2 C (pc := 261) dL_law_261 ?_
  refine go_ciV0 C (pc := 262) obj_25 (c_X8_thrown C.fl C.ok μ3) gL_law_X8_thrown rfl rfl yok_X8_thrown ⟨rfl, rfl⟩ ⟨Nat.le_of_ble_eq_true rfl, Nat.le_of_ble_eq_true rfl⟩ (Nat.le_of_ble_eq_true rfl) hcs dL_law_262 (fun r7 μ4 h7 => ?_)
  obtain ⟨e7, e8⟩ := h7
  subst e7
  refine go_mem e8 ?_
  refine go_iload5 C (pc := 265) dL_law_265 ?_
  refine go_icmp_eq C (pc := 267) (tgt := 272) dL_law_267 (by decide) (fun _ => ?_) (fun z => absurd t1 z)
  refine go_iload5 C (pc := 272) dL_law_272 ?_
  have fin : Go p l e room_1 s m #[Value.ref b] below meth c (cells + 4) (slots + 24) Q (AL s) D ad cI cL 9 289 [some (.ref b), some (.ref (ad 0)), some (.ref (ad 25)), some (.ref (ad 33)), some (.int (nI (3 * t))), some (.int r5), some (.int r6), none, none] [] μ3 := by
    refine go_goto C (pc := 289) (tgt := 1737) dL_law_289 (by decide) ?_
    exact go_drop5 (go_drop6 (K μ3 t3))
  refine go_if_ne C (pc := 274) (tgt := 289) dL_law_274 (by decide) (fun _ => fin) (fun z => ?_)
  refine go_aload3 C (pc := 277) dL_law_277 ?_
  refine go_iconst C (pc := 278) (v := 0) (by decide) dL_law_278 ?_
  refine go_laldO C (pc := 279) dL_law_279 ?_
  refine go_long (congrArg Int32.toInt64 (t2 z)) ?_
  refine go_iload6 C (pc := 280) dL_law_280 ?_
  refine go_i2l C (pc := 282) dL_law_282 ?_
  refine go_lcmp C (pc := 283) dL_law_283 ?_
  exact go_if_eq C (pc := 284) (tgt := 289) dL_law_284 (by decide) (fun _ => fin) (fun y => absurd ((lg_cmp_eq _ _).mpr rfl) y)
set_option maxRecDepth 20000 in
set_option maxHeartbeats 4000000 in
theorem cs_2 {p : Program} {l : Launch} {e : Env} {s : State} {m : MethodId} {below : List Frame} {meth : Method} {c : Code} {cells slots : Nat} {Q : State → Prop} {D : va_G} {ad : Nat → Nat} {cI cL : ClassId} {b L : Nat} {xs : Nat → Int32} {μ : Mem} (CL : CxL p l s m b meth c D ad cI cL L xs) {t : Nat} (ht : 3 * t + 2 < L) (hcs : cells + 4 ≤ room_1.cells ∧ slots + 24 ≤ room_1.slots) (hI : Inv μ)
    (K : ∀ μ', Inv μ' → Go p l e room_1 s m #[Value.ref b] below meth c (cells + 4) (slots + 24) Q (AL s) D ad cI cL 9 1737 (lvN b ad t) [] μ') : Go p l e room_1 s m #[Value.ref b] below meth c cells slots Q (AL s) D ad cI cL 9 292 (lvN b ad t) [] μ := by
  obtain ⟨n, q, h, w, bs, H⟩ := hI
  have C := CL.1
  have hfl := C.fl
  have hok := C.ok
  refine go_lv (lv' := [some (.ref b), some (.ref (ad 0)), some (.ref (ad 25)), some (.ref (ad 33)), some (.int (nI (3 * t))), none, none, none, none]) rfl ?_
  refine go_aload1 C (pc := 292) dL_law_292 ?_
  refine go_aload0 C (pc := 293) dL_law_293 ?_
  refine go_iload4 C (pc := 294) dL_law_294 ?_
  refine go_iconst C (pc := 296) (v := 1) (by decide) dL_law_296 ?_
  refine go_iadd C (pc := 297) dL_law_297 ?_
  refine go_sld CL (pc := 298) (j := 3 * t + 1) (nI_3 t) (by omega) dL_law_298 ?_
  refine go_aload0 C (pc := 299) dL_law_299 ?_
  refine go_iload4 C (pc := 300) dL_law_300 ?_
  refine go_iconst C (pc := 302) (v := 2) (by decide) dL_law_302 ?_
  refine go_iadd C (pc := 303) dL_law_303 ?_
  refine go_sld CL (pc := 304) (j := 3 * t + 2) (nI_32 t) (by omega) dL_law_304 ?_
  refine go_aload3 C (pc := 305) dL_law_305 ?_
  refine go_ciL C CL.2.1 (pc := 306) (As := [.ref (ad 0), .int (xs (3 * t + 1)), .int (xs (3 * t + 2)), .ref (ad 33)]) (st := []) (h_bind hfl hok (xs (3 * t + 1)) (xs (3 * t + 2)) (c_X7_bind hfl hok μ (xs (3 * t + 1)) (xs (3 * t + 2)) H.1 H.2.1 q h H.ch) (fun E hx => hx.elim (fun z => (dem2_E z).1.elim Or.inl (fun y => Or.inr (Or.inl y))) (fun ⟨_, _, _, _, _, _, _, _, z⟩ => Or.inr (Or.inr z)))) rfl rfl gL_law_L_bind rfl yok_L_bind ⟨rfl, rfl⟩ ⟨Nat.le_of_ble_eq_true rfl, Nat.le_of_ble_eq_true rfl⟩ (Nat.le_of_ble_eq_true rfl) hcs dL_law_306 (fun r5 μ2 hc => ?_)
  have hs : same μ μ2 CC := hc.cc (fun v μ9 hf => by obtain ⟨_, _, -, -, -, -, -, -, -, -, -, gs⟩ := hf; exact gs.mono (by decide))
  refine go_istore5 C (pc := 309) dL_law_309 ?_
  refine go_aload2 C (pc := 311) dL_law_311 ?_
  refine go_aload0 C (pc := 312) dL_law_312 ?_
  refine go_iload4 C (pc := 313) dL_law_313 ?_
  refine go_iconst C (pc := 315) (v := 1) (by decide) dL_law_315 ?_
  refine go_iadd C (pc := 316) dL_law_316 ?_
  refine go_sld CL (pc := 317) (j := 3 * t + 1) (nI_3 t) (by omega) dL_law_317 ?_
  refine go_aload0 C (pc := 318) dL_law_318 ?_
  refine go_iload4 C (pc := 319) dL_law_319 ?_
  refine go_iconst C (pc := 321) (v := 2) (by decide) dL_law_321 ?_
  refine go_iadd C (pc := 322) dL_law_322 ?_
  refine go_sld CL (pc := 323) (j := 3 * t + 2) (nI_32 t) (by omega) dL_law_323 ?_
  refine go_ciV2 C (pc := 324) obj_25 (c_X8_bind C.fl C.ok μ2 (xs (3 * t + 1)) (xs (3 * t + 2)) (H.mo hs) H.2.1 (H.mh hs)) gL_law_X8_bind rfl rfl yok_X8_bind ⟨rfl, rfl⟩ ⟨Nat.le_of_ble_eq_true rfl, Nat.le_of_ble_eq_true rfl⟩ (Nat.le_of_ble_eq_true rfl) hcs dL_law_324 (fun r6 μ3 hm => ?_)
  refine go_istore6 C (pc := 327) dL_law_327 ?_
  obtain ⟨t1, t2, t3⟩ : TailOK r5 r6 μ3 := m_bind H hc hm
  refine go_aload2 C (pc := 329) dL_law_329 ?_
  refine go_ciV0 C (pc := 330) obj_25 (c_X8_thrown C.fl C.ok μ3) gL_law_X8_thrown rfl rfl yok_X8_thrown ⟨rfl, rfl⟩ ⟨Nat.le_of_ble_eq_true rfl, Nat.le_of_ble_eq_true rfl⟩ (Nat.le_of_ble_eq_true rfl) hcs dL_law_330 (fun r7 μ4 h7 => ?_)
  obtain ⟨e7, e8⟩ := h7
  subst e7
  refine go_mem e8 ?_
  refine go_iload5 C (pc := 333) dL_law_333 ?_
  refine go_icmp_eq C (pc := 335) (tgt := 340) dL_law_335 (by decide) (fun _ => ?_) (fun z => absurd t1 z)
  refine go_iload5 C (pc := 340) dL_law_340 ?_
  have fin : Go p l e room_1 s m #[Value.ref b] below meth c (cells + 4) (slots + 24) Q (AL s) D ad cI cL 9 357 [some (.ref b), some (.ref (ad 0)), some (.ref (ad 25)), some (.ref (ad 33)), some (.int (nI (3 * t))), some (.int r5), some (.int r6), none, none] [] μ3 := by
    refine go_goto C (pc := 357) (tgt := 1737) dL_law_357 (by decide) ?_
    exact go_drop5 (go_drop6 (K μ3 t3))
  refine go_if_ne C (pc := 342) (tgt := 357) dL_law_342 (by decide) (fun _ => fin) (fun z => ?_)
  refine go_aload3 C (pc := 345) dL_law_345 ?_
  refine go_iconst C (pc := 346) (v := 0) (by decide) dL_law_346 ?_
  refine go_laldO C (pc := 347) dL_law_347 ?_
  refine go_long (congrArg Int32.toInt64 (t2 z)) ?_
  refine go_iload6 C (pc := 348) dL_law_348 ?_
  refine go_i2l C (pc := 350) dL_law_350 ?_
  refine go_lcmp C (pc := 351) dL_law_351 ?_
  exact go_if_eq C (pc := 352) (tgt := 357) dL_law_352 (by decide) (fun _ => fin) (fun y => absurd ((lg_cmp_eq _ _).mpr rfl) y)
set_option maxRecDepth 20000 in
set_option maxHeartbeats 4000000 in
theorem cs_3 {p : Program} {l : Launch} {e : Env} {s : State} {m : MethodId} {below : List Frame} {meth : Method} {c : Code} {cells slots : Nat} {Q : State → Prop} {D : va_G} {ad : Nat → Nat} {cI cL : ClassId} {b L : Nat} {xs : Nat → Int32} {μ : Mem} (CL : CxL p l s m b meth c D ad cI cL L xs) {t : Nat} (ht : 3 * t + 2 < L) (hcs : cells + 4 ≤ room_1.cells ∧ slots + 24 ≤ room_1.slots) (hI : Inv μ)
    (K : ∀ μ', Inv μ' → Go p l e room_1 s m #[Value.ref b] below meth c (cells + 4) (slots + 24) Q (AL s) D ad cI cL 9 1737 (lvN b ad t) [] μ') : Go p l e room_1 s m #[Value.ref b] below meth c cells slots Q (AL s) D ad cI cL 9 360 (lvN b ad t) [] μ := by
  obtain ⟨n, q, h, w, bs, H⟩ := hI
  have C := CL.1
  have hfl := C.fl
  have hok := C.ok
  refine go_lv (lv' := [some (.ref b), some (.ref (ad 0)), some (.ref (ad 25)), some (.ref (ad 33)), some (.int (nI (3 * t))), none, none, none, none]) rfl ?_
  refine go_aload1 C (pc := 360) dL_law_360 ?_
  refine go_aload0 C (pc := 361) dL_law_361 ?_
  refine go_iload4 C (pc := 362) dL_law_362 ?_
  refine go_iconst C (pc := 364) (v := 1) (by decide) dL_law_364 ?_
  refine go_iadd C (pc := 365) dL_law_365 ?_
  refine go_sld CL (pc := 366) (j := 3 * t + 1) (nI_3 t) (by omega) dL_law_366 ?_
  refine go_aload0 C (pc := 367) dL_law_367 ?_
  refine go_iload4 C (pc := 368) dL_law_368 ?_
  refine go_iconst C (pc := 370) (v := 2) (by decide) dL_law_370 ?_
  refine go_iadd C (pc := 371) dL_law_371 ?_
  refine go_sld CL (pc := 372) (j := 3 * t + 2) (nI_32 t) (by omega) dL_law_372 ?_
  refine go_aload3 C (pc := 373) dL_law_373 ?_
  refine go_ciL C CL.2.1 (pc := 374) (As := [.ref (ad 0), .int (xs (3 * t + 1)), .int (xs (3 * t + 2)), .ref (ad 33)]) (st := []) (h_cut hfl hok (xs (3 * t + 1)) (xs (3 * t + 2)) (c_X7_cut hfl hok μ (xs (3 * t + 1)) (xs (3 * t + 2)) H.1 H.2.1 q h H.ch) (fun E hx => hx.elim (fun z => (dem2_E z).1.elim Or.inl (fun y => Or.inr (Or.inl y))) (fun ⟨_, _, _, _, _, _, _, _, z⟩ => Or.inr (Or.inr z)))) rfl rfl gL_law_L_cut rfl yok_L_cut ⟨rfl, rfl⟩ ⟨Nat.le_of_ble_eq_true rfl, Nat.le_of_ble_eq_true rfl⟩ (Nat.le_of_ble_eq_true rfl) hcs dL_law_374 (fun r5 μ2 hc => ?_)
  have hs : same μ μ2 CC := hc.cc (fun v μ9 hf => by obtain ⟨_, _, -, -, -, -, -, -, -, -, -, gs⟩ := hf; exact gs.mono (by decide))
  refine go_istore5 C (pc := 377) dL_law_377 ?_
  refine go_aload2 C (pc := 379) dL_law_379 ?_
  refine go_aload0 C (pc := 380) dL_law_380 ?_
  refine go_iload4 C (pc := 381) dL_law_381 ?_
  refine go_iconst C (pc := 383) (v := 1) (by decide) dL_law_383 ?_
  refine go_iadd C (pc := 384) dL_law_384 ?_
  refine go_sld CL (pc := 385) (j := 3 * t + 1) (nI_3 t) (by omega) dL_law_385 ?_
  refine go_aload0 C (pc := 386) dL_law_386 ?_
  refine go_iload4 C (pc := 387) dL_law_387 ?_
  refine go_iconst C (pc := 389) (v := 2) (by decide) dL_law_389 ?_
  refine go_iadd C (pc := 390) dL_law_390 ?_
  refine go_sld CL (pc := 391) (j := 3 * t + 2) (nI_32 t) (by omega) dL_law_391 ?_
  refine go_ciV2 C (pc := 392) obj_25 (c_X8_cut C.fl C.ok μ2 (xs (3 * t + 1)) (xs (3 * t + 2)) (H.mo hs) H.2.1 (H.mh hs)) gL_law_X8_cut rfl rfl yok_X8_cut ⟨rfl, rfl⟩ ⟨Nat.le_of_ble_eq_true rfl, Nat.le_of_ble_eq_true rfl⟩ (Nat.le_of_ble_eq_true rfl) hcs dL_law_392 (fun r6 μ3 hm => ?_)
  refine go_istore6 C (pc := 395) dL_law_395 ?_
  obtain ⟨t1, t2, t3⟩ : TailOK r5 r6 μ3 := m_cut H hc hm
  refine go_aload2 C (pc := 397) dL_law_397 ?_
  refine go_ciV0 C (pc := 398) obj_25 (c_X8_thrown C.fl C.ok μ3) gL_law_X8_thrown rfl rfl yok_X8_thrown ⟨rfl, rfl⟩ ⟨Nat.le_of_ble_eq_true rfl, Nat.le_of_ble_eq_true rfl⟩ (Nat.le_of_ble_eq_true rfl) hcs dL_law_398 (fun r7 μ4 h7 => ?_)
  obtain ⟨e7, e8⟩ := h7
  subst e7
  refine go_mem e8 ?_
  refine go_iload5 C (pc := 401) dL_law_401 ?_
  refine go_icmp_eq C (pc := 403) (tgt := 408) dL_law_403 (by decide) (fun _ => ?_) (fun z => absurd t1 z)
  refine go_iload5 C (pc := 408) dL_law_408 ?_
  have fin : Go p l e room_1 s m #[Value.ref b] below meth c (cells + 4) (slots + 24) Q (AL s) D ad cI cL 9 425 [some (.ref b), some (.ref (ad 0)), some (.ref (ad 25)), some (.ref (ad 33)), some (.int (nI (3 * t))), some (.int r5), some (.int r6), none, none] [] μ3 := by
    refine go_goto C (pc := 425) (tgt := 1737) dL_law_425 (by decide) ?_
    exact go_drop5 (go_drop6 (K μ3 t3))
  refine go_if_ne C (pc := 410) (tgt := 425) dL_law_410 (by decide) (fun _ => fin) (fun z => ?_)
  refine go_aload3 C (pc := 413) dL_law_413 ?_
  refine go_iconst C (pc := 414) (v := 0) (by decide) dL_law_414 ?_
  refine go_laldO C (pc := 415) dL_law_415 ?_
  refine go_long (congrArg Int32.toInt64 (t2 z)) ?_
  refine go_iload6 C (pc := 416) dL_law_416 ?_
  refine go_i2l C (pc := 418) dL_law_418 ?_
  refine go_lcmp C (pc := 419) dL_law_419 ?_
  exact go_if_eq C (pc := 420) (tgt := 425) dL_law_420 (by decide) (fun _ => fin) (fun y => absurd ((lg_cmp_eq _ _).mpr rfl) y)
set_option maxRecDepth 20000 in
set_option maxHeartbeats 4000000 in
theorem cs_4 {p : Program} {l : Launch} {e : Env} {s : State} {m : MethodId} {below : List Frame} {meth : Method} {c : Code} {cells slots : Nat} {Q : State → Prop} {D : va_G} {ad : Nat → Nat} {cI cL : ClassId} {b L : Nat} {xs : Nat → Int32} {μ : Mem} (CL : CxL p l s m b meth c D ad cI cL L xs) {t : Nat} (ht : 3 * t + 2 < L) (hcs : cells + 4 ≤ room_1.cells ∧ slots + 24 ≤ room_1.slots) (hI : Inv μ)
    (K : ∀ μ', Inv μ' → Go p l e room_1 s m #[Value.ref b] below meth c (cells + 4) (slots + 24) Q (AL s) D ad cI cL 9 1737 (lvN b ad t) [] μ') : Go p l e room_1 s m #[Value.ref b] below meth c cells slots Q (AL s) D ad cI cL 9 428 (lvN b ad t) [] μ := by
  obtain ⟨n, q, h, w, bs, H⟩ := hI
  have C := CL.1
  have hfl := C.fl
  have hok := C.ok
  refine go_lv (lv' := [some (.ref b), some (.ref (ad 0)), some (.ref (ad 25)), some (.ref (ad 33)), some (.int (nI (3 * t))), none, none, none, none]) rfl ?_
  refine go_aload1 C (pc := 428) dL_law_428 ?_
  refine go_aload0 C (pc := 429) dL_law_429 ?_
  refine go_iload4 C (pc := 430) dL_law_430 ?_
  refine go_iconst C (pc := 432) (v := 1) (by decide) dL_law_432 ?_
  refine go_iadd C (pc := 433) dL_law_433 ?_
  refine go_sld CL (pc := 434) (j := 3 * t + 1) (nI_3 t) (by omega) dL_law_434 ?_
  refine go_aload3 C (pc := 435) dL_law_435 ?_
  refine go_ciL C CL.2.1 (pc := 436) (As := [.ref (ad 0), .int (xs (3 * t + 1)), .ref (ad 33)]) (st := []) (h_switchProp hfl hok (xs (3 * t + 1)) (c_X7_switchProp hfl hok μ (xs (3 * t + 1)) H.1 H.2.1 q h H.ch) (fun E hx => (dem1_E hx).2) (fun r μ9 hf => by obtain ⟨j, -, -, e, -⟩ := hf; rw [e]; exact b2i_01 _)) rfl rfl gL_law_L_switchProp rfl yok_L_switchProp ⟨rfl, rfl⟩ ⟨Nat.le_of_ble_eq_true rfl, Nat.le_of_ble_eq_true rfl⟩ (Nat.le_of_ble_eq_true rfl) hcs dL_law_436 (fun r5 μ2 hc => ?_)
  have hs : same μ μ2 CC := hc.cc (fun v μ9 hf => by obtain ⟨_, -, -, -, -, -, gs⟩ := hf; exact gs.mono (by decide))
  refine go_istore5 C (pc := 439) dL_law_439 ?_
  refine go_aload2 C (pc := 441) dL_law_441 ?_
  refine go_aload0 C (pc := 442) dL_law_442 ?_
  refine go_iload4 C (pc := 443) dL_law_443 ?_
  refine go_iconst C (pc := 445) (v := 1) (by decide) dL_law_445 ?_
  refine go_iadd C (pc := 446) dL_law_446 ?_
  refine go_sld CL (pc := 447) (j := 3 * t + 1) (nI_3 t) (by omega) dL_law_447 ?_
  refine go_ciV1 C (pc := 448) obj_25 (c_X8_switchProp C.fl C.ok μ2 (xs (3 * t + 1)) (H.mo hs) H.2.1 (H.mh hs)) gL_law_X8_switchProp rfl rfl yok_X8_switchProp ⟨rfl, rfl⟩ ⟨Nat.le_of_ble_eq_true rfl, Nat.le_of_ble_eq_true rfl⟩ (Nat.le_of_ble_eq_true rfl) hcs dL_law_448 (fun r6 μ3 hm => ?_)
  refine go_istore6 C (pc := 451) dL_law_451 ?_
  obtain ⟨⟨t1, t2, t3⟩, t4⟩ := m_switchProp H hc hm
  refine go_aload2 C (pc := 453) dL_law_453 ?_
  refine go_ciV0 C (pc := 454) obj_25 (c_X8_thrown C.fl C.ok μ3) gL_law_X8_thrown rfl rfl yok_X8_thrown ⟨rfl, rfl⟩ ⟨Nat.le_of_ble_eq_true rfl, Nat.le_of_ble_eq_true rfl⟩ (Nat.le_of_ble_eq_true rfl) hcs dL_law_454 (fun r7 μ4 h7 => ?_)
  obtain ⟨e7, e8⟩ := h7
  subst e7
  refine go_mem e8 ?_
  refine go_iload5 C (pc := 457) dL_law_457 ?_
  refine go_icmp_eq C (pc := 459) (tgt := 464) dL_law_459 (by decide) (fun _ => ?_) (fun z => absurd t1 z)
  refine go_iload5 C (pc := 464) dL_law_464 ?_
  have fin : Go p l e room_1 s m #[Value.ref b] below meth c (cells + 4) (slots + 24) Q (AL s) D ad cI cL 9 488 [some (.ref b), some (.ref (ad 0)), some (.ref (ad 25)), some (.ref (ad 33)), some (.int (nI (3 * t))), some (.int r5), some (.int r6), none, none] [] μ3 := by
    refine go_goto C (pc := 488) (tgt := 1737) dL_law_488 (by decide) ?_
    exact go_drop5 (go_drop6 (K μ3 t3))
  refine go_if_ne C (pc := 466) (tgt := 488) dL_law_466 (by decide) (fun _ => fin) (fun z => ?_)
  refine go_aload3 C (pc := 469) dL_law_469 ?_
  refine go_iconst C (pc := 470) (v := 0) (by decide) dL_law_470 ?_
  refine go_laldO C (pc := 471) dL_law_471 ?_
  refine go_long (congrArg Int32.toInt64 (t2 z)) ?_
  refine go_iload6 C (pc := 472) dL_law_472 ?_
  refine go_if_eq C (pc := 474) (tgt := 481) dL_law_474 (by decide) (fun y => ?_) (fun y => ?_)
  · refine go_lconst C (pc := 481) (v := (0 : Int32).toInt64) rfl dL_law_481 ?_
    refine go_lcmp C (pc := 482) dL_law_482 ?_
    exact go_if_eq C (pc := 483) (tgt := 488) dL_law_483 (by decide) (fun _ => fin) (fun y2 => absurd ((lg_cmp_eq _ _).mpr (congrArg Int32.toInt64 y)) y2)
  · refine go_lconst C (pc := 477) (v := (1 : Int32).toInt64) rfl dL_law_477 ?_
    refine go_goto C (pc := 478) (tgt := 482) dL_law_478 (by decide) ?_
    refine go_lcmp C (pc := 482) dL_law_482 ?_
    exact go_if_eq C (pc := 483) (tgt := 488) dL_law_483 (by decide) (fun _ => fin) (fun y2 => absurd ((lg_cmp_eq _ _).mpr (congrArg Int32.toInt64 ((t4 z).resolve_left y))) y2)
set_option maxRecDepth 20000 in
set_option maxHeartbeats 4000000 in
theorem cs_5 {p : Program} {l : Launch} {e : Env} {s : State} {m : MethodId} {below : List Frame} {meth : Method} {c : Code} {cells slots : Nat} {Q : State → Prop} {D : va_G} {ad : Nat → Nat} {cI cL : ClassId} {b L : Nat} {xs : Nat → Int32} {μ : Mem} (CL : CxL p l s m b meth c D ad cI cL L xs) {t : Nat} (ht : 3 * t + 2 < L) (hcs : cells + 4 ≤ room_1.cells ∧ slots + 24 ≤ room_1.slots) (hI : Inv μ)
    (K : ∀ μ', Inv μ' → Go p l e room_1 s m #[Value.ref b] below meth c (cells + 4) (slots + 24) Q (AL s) D ad cI cL 9 1737 (lvN b ad t) [] μ') : Go p l e room_1 s m #[Value.ref b] below meth c cells slots Q (AL s) D ad cI cL 9 491 (lvN b ad t) [] μ := by
  obtain ⟨n, q, h, w, bs, H⟩ := hI
  have C := CL.1
  have hfl := C.fl
  have hok := C.ok
  refine go_lv (lv' := [some (.ref b), some (.ref (ad 0)), some (.ref (ad 25)), some (.ref (ad 33)), some (.int (nI (3 * t))), none, none, none, none]) rfl ?_
  refine go_aload1 C (pc := 491) dL_law_491 ?_
  refine go_aload3 C (pc := 492) dL_law_492 ?_
  refine go_ciL C CL.2.1 (pc := 493) (As := [.ref (ad 0), .ref (ad 33)]) (st := []) (h_change hfl hok (c_X7_change hfl hok μ H.1 H.2.1 q h H.ch w H.t4 H.wl) (fun E hx => hx.2)) rfl rfl gL_law_L_change rfl yok_L_change ⟨rfl, rfl⟩ ⟨Nat.le_of_ble_eq_true rfl, Nat.le_of_ble_eq_true rfl⟩ (Nat.le_of_ble_eq_true rfl) hcs dL_law_493 (fun r5 μ2 hc => ?_)
  have hs : same μ μ2 CC := hc.cc (fun v μ9 hf => by obtain ⟨-, -, -, -, gs⟩ := hf; exact gs.mono (by decide))
  refine go_istore5 C (pc := 496) dL_law_496 ?_
  refine go_aload2 C (pc := 498) dL_law_498 ?_
  refine go_ciV0 C (pc := 499) obj_25 (c_X8_change C.fl C.ok μ2 w (H.mo hs) H.2.1 (H.mh hs) (H.tx hs) H.wl) gL_law_X8_change rfl rfl yok_X8_change ⟨rfl, rfl⟩ ⟨Nat.le_of_ble_eq_true rfl, Nat.le_of_ble_eq_true rfl⟩ (Nat.le_of_ble_eq_true rfl) hcs dL_law_499 (fun r6 μ3 hm => ?_)
  refine go_istore6 C (pc := 502) dL_law_502 ?_
  obtain ⟨t1, t2, t3⟩ : TailOK r5 r6 μ3 := m_change H (H.t29 hs) hc hm
  refine go_aload2 C (pc := 504) dL_law_504 ?_
  refine go_ciV0 C (pc := 505) obj_25 (c_X8_thrown C.fl C.ok μ3) gL_law_X8_thrown rfl rfl yok_X8_thrown ⟨rfl, rfl⟩ ⟨Nat.le_of_ble_eq_true rfl, Nat.le_of_ble_eq_true rfl⟩ (Nat.le_of_ble_eq_true rfl) hcs dL_law_505 (fun r7 μ4 h7 => ?_)
  obtain ⟨e7, e8⟩ := h7
  subst e7
  refine go_mem e8 ?_
  refine go_iload5 C (pc := 508) dL_law_508 ?_
  refine go_icmp_eq C (pc := 510) (tgt := 515) dL_law_510 (by decide) (fun _ => ?_) (fun z => absurd t1 z)
  refine go_iload5 C (pc := 515) dL_law_515 ?_
  have fin : Go p l e room_1 s m #[Value.ref b] below meth c (cells + 4) (slots + 24) Q (AL s) D ad cI cL 9 532 [some (.ref b), some (.ref (ad 0)), some (.ref (ad 25)), some (.ref (ad 33)), some (.int (nI (3 * t))), some (.int r5), some (.int r6), none, none] [] μ3 := by
    refine go_goto C (pc := 532) (tgt := 1737) dL_law_532 (by decide) ?_
    exact go_drop5 (go_drop6 (K μ3 t3))
  refine go_if_ne C (pc := 517) (tgt := 532) dL_law_517 (by decide) (fun _ => fin) (fun z => ?_)
  refine go_aload3 C (pc := 520) dL_law_520 ?_
  refine go_iconst C (pc := 521) (v := 0) (by decide) dL_law_521 ?_
  refine go_laldO C (pc := 522) dL_law_522 ?_
  refine go_long (congrArg Int32.toInt64 (t2 z)) ?_
  refine go_iload6 C (pc := 523) dL_law_523 ?_
  refine go_i2l C (pc := 525) dL_law_525 ?_
  refine go_lcmp C (pc := 526) dL_law_526 ?_
  exact go_if_eq C (pc := 527) (tgt := 532) dL_law_527 (by decide) (fun _ => fin) (fun y => absurd ((lg_cmp_eq _ _).mpr rfl) y)
set_option maxRecDepth 20000 in
set_option maxHeartbeats 4000000 in
theorem cs_6 {p : Program} {l : Launch} {e : Env} {s : State} {m : MethodId} {below : List Frame} {meth : Method} {c : Code} {cells slots : Nat} {Q : State → Prop} {D : va_G} {ad : Nat → Nat} {cI cL : ClassId} {b L : Nat} {xs : Nat → Int32} {μ : Mem} (CL : CxL p l s m b meth c D ad cI cL L xs) {t : Nat} (ht : 3 * t + 2 < L) (hcs : cells + 4 ≤ room_1.cells ∧ slots + 24 ≤ room_1.slots) (hI : Inv μ)
    (K : ∀ μ', Inv μ' → Go p l e room_1 s m #[Value.ref b] below meth c (cells + 4) (slots + 24) Q (AL s) D ad cI cL 9 1737 (lvN b ad t) [] μ') : Go p l e room_1 s m #[Value.ref b] below meth c cells slots Q (AL s) D ad cI cL 9 535 (lvN b ad t) [] μ := by
  obtain ⟨n, q, h, w, bs, H⟩ := hI
  have C := CL.1
  have hfl := C.fl
  have hok := C.ok
  refine go_lv (lv' := [some (.ref b), some (.ref (ad 0)), some (.ref (ad 25)), some (.ref (ad 33)), some (.int (nI (3 * t))), none, none, none, none]) rfl ?_
  refine go_aload1 C (pc := 535) dL_law_535 ?_
  refine go_aload0 C (pc := 536) dL_law_536 ?_
  refine go_iload4 C (pc := 537) dL_law_537 ?_
  refine go_iconst C (pc := 539) (v := 1) (by decide) dL_law_539 ?_
  refine go_iadd C (pc := 540) dL_law_540 ?_
  refine go_sld CL (pc := 541) (j := 3 * t + 1) (nI_3 t) (by omega) dL_law_541 ?_
  refine go_i2c C (pc := 542) dL_law_542 ?_
  refine go_aload3 C (pc := 543) dL_law_543 ?_
  refine go_ciL C CL.2.1 (pc := 544) (As := [.ref (ad 0), .int (((xs (3 * t + 1)).toUInt32 % 65536).toInt32), .ref (ad 33)]) (st := []) (h_append hfl hok (((xs (3 * t + 1)).toUInt32 % 65536).toInt32) (c_X7_append hfl hok μ (((xs (3 * t + 1)).toUInt32 % 65536).toInt32) w H.t4 H.wl) (fun E hx => hx.2)) rfl rfl gL_law_L_append rfl yok_L_append ⟨rfl, rfl⟩ ⟨Nat.le_of_ble_eq_true rfl, Nat.le_of_ble_eq_true rfl⟩ (Nat.le_of_ble_eq_true rfl) hcs dL_law_544 (fun r5 μ2 hc => ?_)
  have hs : same μ μ2 CC := hc.cc (fun v μ9 hf => by obtain ⟨-, -, gs⟩ := hf; rw [gs]; exact same.m2 (by decide) (by decide))
  refine go_istore5 C (pc := 547) dL_law_547 ?_
  refine go_aload2 C (pc := 549) dL_law_549 ?_
  refine go_aload0 C (pc := 550) dL_law_550 ?_
  refine go_iload4 C (pc := 551) dL_law_551 ?_
  refine go_iconst C (pc := 553) (v := 1) (by decide) dL_law_553 ?_
  refine go_iadd C (pc := 554) dL_law_554 ?_
  refine go_sld CL (pc := 555) (j := 3 * t + 1) (nI_3 t) (by omega) dL_law_555 ?_
  refine go_i2c C (pc := 556) dL_law_556 ?_
  refine go_ciV1 C (pc := 557) obj_25 (c_X8_append C.fl C.ok μ2 (((xs (3 * t + 1)).toUInt32 % 65536).toInt32) w (H.tx hs) H.wl) gL_law_X8_append rfl rfl yok_X8_append ⟨rfl, rfl⟩ ⟨Nat.le_of_ble_eq_true rfl, Nat.le_of_ble_eq_true rfl⟩ (Nat.le_of_ble_eq_true rfl) hcs dL_law_557 (fun r6 μ3 hm => ?_)
  refine go_istore6 C (pc := 560) dL_law_560 ?_
  obtain ⟨t1, t2, t3⟩ : TailOK r5 r6 μ3 := m_append H hc hm
  refine go_aload2 C (pc := 562) dL_law_562 ?_
  refine go_ciV0 C (pc := 563) obj_25 (c_X8_thrown C.fl C.ok μ3) gL_law_X8_thrown rfl rfl yok_X8_thrown ⟨rfl, rfl⟩ ⟨Nat.le_of_ble_eq_true rfl, Nat.le_of_ble_eq_true rfl⟩ (Nat.le_of_ble_eq_true rfl) hcs dL_law_563 (fun r7 μ4 h7 => ?_)
  obtain ⟨e7, e8⟩ := h7
  subst e7
  refine go_mem e8 ?_
  refine go_iload5 C (pc := 566) dL_law_566 ?_
  refine go_icmp_eq C (pc := 568) (tgt := 573) dL_law_568 (by decide) (fun _ => ?_) (fun z => absurd t1 z)
  refine go_iload5 C (pc := 573) dL_law_573 ?_
  have fin : Go p l e room_1 s m #[Value.ref b] below meth c (cells + 4) (slots + 24) Q (AL s) D ad cI cL 9 590 [some (.ref b), some (.ref (ad 0)), some (.ref (ad 25)), some (.ref (ad 33)), some (.int (nI (3 * t))), some (.int r5), some (.int r6), none, none] [] μ3 := by
    refine go_goto C (pc := 590) (tgt := 1737) dL_law_590 (by decide) ?_
    exact go_drop5 (go_drop6 (K μ3 t3))
  refine go_if_ne C (pc := 575) (tgt := 590) dL_law_575 (by decide) (fun _ => fin) (fun z => ?_)
  refine go_aload3 C (pc := 578) dL_law_578 ?_
  refine go_iconst C (pc := 579) (v := 0) (by decide) dL_law_579 ?_
  refine go_laldO C (pc := 580) dL_law_580 ?_
  refine go_long (congrArg Int32.toInt64 (t2 z)) ?_
  refine go_iload6 C (pc := 581) dL_law_581 ?_
  refine go_i2l C (pc := 583) dL_law_583 ?_
  refine go_lcmp C (pc := 584) dL_law_584 ?_
  exact go_if_eq C (pc := 585) (tgt := 590) dL_law_585 (by decide) (fun _ => fin) (fun y => absurd ((lg_cmp_eq _ _).mpr rfl) y)
set_option maxRecDepth 20000 in
set_option maxHeartbeats 4000000 in
theorem cs_7 {p : Program} {l : Launch} {e : Env} {s : State} {m : MethodId} {below : List Frame} {meth : Method} {c : Code} {cells slots : Nat} {Q : State → Prop} {D : va_G} {ad : Nat → Nat} {cI cL : ClassId} {b L : Nat} {xs : Nat → Int32} {μ : Mem} (CL : CxL p l s m b meth c D ad cI cL L xs) {t : Nat} (ht : 3 * t + 2 < L) (hcs : cells + 4 ≤ room_1.cells ∧ slots + 24 ≤ room_1.slots) (hI : Inv μ)
    (K : ∀ μ', Inv μ' → Go p l e room_1 s m #[Value.ref b] below meth c (cells + 4) (slots + 24) Q (AL s) D ad cI cL 9 1737 (lvN b ad t) [] μ') : Go p l e room_1 s m #[Value.ref b] below meth c cells slots Q (AL s) D ad cI cL 9 593 (lvN b ad t) [] μ := by
  obtain ⟨n, q, h, w, bs, H⟩ := hI
  have C := CL.1
  have hfl := C.fl
  have hok := C.ok
  refine go_lv (lv' := [some (.ref b), some (.ref (ad 0)), some (.ref (ad 25)), some (.ref (ad 33)), some (.int (nI (3 * t))), none, none, none, none]) rfl ?_
  refine go_widen (k := cells + 4) (n := slots + 24) (Nat.le_add_right _ _) (Nat.le_add_right _ _) ?_
  refine go_aload1 C (pc := 593) dL_law_593 ?_
  refine go_ciV0 C (pc := 594) obj_0 (c_X7_clearText C.fl C.ok μ) gL_law_X7_clearText rfl rfl yok_X7_clearText ⟨rfl, rfl⟩ ⟨Nat.le_of_ble_eq_true rfl, Nat.le_of_ble_eq_true rfl⟩ (Nat.le_of_ble_eq_true rfl) hcs dL_law_594 (fun r5 μ2 hc => ?_)
  have hs : same μ μ2 CC := by rw [hc.2]; exact same.m1 (by decide)
  refine go_aload2 C (pc := 597) dL_law_597 ?_
  refine go_ciV0 C (pc := 598) obj_25 (c_X8_clearText C.fl C.ok μ2 ) gL_law_X8_clearText rfl rfl yok_X8_clearText ⟨rfl, rfl⟩ ⟨Nat.le_of_ble_eq_true rfl, Nat.le_of_ble_eq_true rfl⟩ (Nat.le_of_ble_eq_true rfl) hcs dL_law_598 (fun r6 μ3 hm => ?_)
  obtain ⟨t2, t3⟩ := m_clearText H hc hm
  exact go_icmp_eq C (pc := 601) (tgt := 1737) dL_law_601 (by decide) (fun _ => K μ3 t3) (fun z => absurd t2 z)
set_option maxRecDepth 20000 in
set_option maxHeartbeats 4000000 in
theorem cs_8 {p : Program} {l : Launch} {e : Env} {s : State} {m : MethodId} {below : List Frame} {meth : Method} {c : Code} {cells slots : Nat} {Q : State → Prop} {D : va_G} {ad : Nat → Nat} {cI cL : ClassId} {b L : Nat} {xs : Nat → Int32} {μ : Mem} (CL : CxL p l s m b meth c D ad cI cL L xs) {t : Nat} (ht : 3 * t + 2 < L) (hcs : cells + 4 ≤ room_1.cells ∧ slots + 24 ≤ room_1.slots) (hI : Inv μ)
    (K : ∀ μ', Inv μ' → Go p l e room_1 s m #[Value.ref b] below meth c (cells + 4) (slots + 24) Q (AL s) D ad cI cL 9 1737 (lvN b ad t) [] μ') : Go p l e room_1 s m #[Value.ref b] below meth c cells slots Q (AL s) D ad cI cL 9 606 (lvN b ad t) [] μ := by
  obtain ⟨n, q, h, w, bs, H⟩ := hI
  have C := CL.1
  have hfl := C.fl
  have hok := C.ok
  refine go_lv (lv' := [some (.ref b), some (.ref (ad 0)), some (.ref (ad 25)), some (.ref (ad 33)), some (.int (nI (3 * t))), none, none, none, none]) rfl ?_
  refine go_widen (k := cells + 4) (n := slots + 24) (Nat.le_add_right _ _) (Nat.le_add_right _ _) ?_
  refine go_aload1 C (pc := 606) dL_law_606 ?_
  refine go_ciV0 C (pc := 607) obj_0 (c_X7_isValid C.fl C.ok μ w H.t4 H.wl) gL_law_X7_isValid rfl rfl yok_X7_isValid ⟨rfl, rfl⟩ ⟨Nat.le_of_ble_eq_true rfl, Nat.le_of_ble_eq_true rfl⟩ (Nat.le_of_ble_eq_true rfl) hcs dL_law_607 (fun r5 μ2 hc => ?_)
  have hq : same μ μ2 SC := by rw [hc.2]; exact same.rf
  have hs : same μ μ2 CC := hq.mono (by decide)
  refine go_aload2 C (pc := 610) dL_law_610 ?_
  refine go_ciV0 C (pc := 611) obj_25 (c_X8_isValid C.fl C.ok μ2 w (H.mo hs) H.2.1 (H.tx hs) H.wl) gL_law_X8_isValid rfl rfl yok_X8_isValid ⟨rfl, rfl⟩ ⟨Nat.le_of_ble_eq_true rfl, Nat.le_of_ble_eq_true rfl⟩ (Nat.le_of_ble_eq_true rfl) hcs dL_law_611 (fun r6 μ3 hm => ?_)
  have t2 : r5 = r6 := by rw [hc.1, hm.1, H.t29 hs]
  have t3 : Inv μ3 := inv_q H hq hm.2.2 (by decide)
  exact go_icmp_eq C (pc := 614) (tgt := 1737) dL_law_614 (by decide) (fun _ => K μ3 t3) (fun z => absurd t2 z)
set_option maxRecDepth 20000 in
set_option maxHeartbeats 4000000 in
theorem cs_9 {p : Program} {l : Launch} {e : Env} {s : State} {m : MethodId} {below : List Frame} {meth : Method} {c : Code} {cells slots : Nat} {Q : State → Prop} {D : va_G} {ad : Nat → Nat} {cI cL : ClassId} {b L : Nat} {xs : Nat → Int32} {μ : Mem} (CL : CxL p l s m b meth c D ad cI cL L xs) {t : Nat} (ht : 3 * t + 2 < L) (hcs : cells + 4 ≤ room_1.cells ∧ slots + 24 ≤ room_1.slots) (hI : Inv μ)
    (K : ∀ μ', Inv μ' → Go p l e room_1 s m #[Value.ref b] below meth c (cells + 4) (slots + 24) Q (AL s) D ad cI cL 9 1737 (lvN b ad t) [] μ') : Go p l e room_1 s m #[Value.ref b] below meth c cells slots Q (AL s) D ad cI cL 9 619 (lvN b ad t) [] μ := by
  obtain ⟨n, q, h, w, bs, H⟩ := hI
  have C := CL.1
  have hfl := C.fl
  have hok := C.ok
  refine go_lv (lv' := [some (.ref b), some (.ref (ad 0)), some (.ref (ad 25)), some (.ref (ad 33)), some (.int (nI (3 * t))), none, none, none, none]) rfl ?_
  refine go_aload1 C (pc := 619) dL_law_619 ?_
  refine go_aload3 C (pc := 620) dL_law_620 ?_
  refine go_ciL C CL.2.1 (pc := 621) (As := [.ref (ad 0), .ref (ad 33)]) (st := []) (h_firstError hfl hok (c_X7_firstError hfl hok μ w H.t4 H.wl) (fun E hx => hx.2)) rfl rfl gL_law_L_firstError rfl yok_L_firstError ⟨rfl, rfl⟩ ⟨Nat.le_of_ble_eq_true rfl, Nat.le_of_ble_eq_true rfl⟩ (Nat.le_of_ble_eq_true rfl) hcs dL_law_621 (fun r5 μ2 hc => ?_)
  have hs : same μ μ2 CC := hc.cc (fun v μ9 hf => by obtain ⟨-, -, gs⟩ := hf; rw [gs]; exact same.rf)
  refine go_istore5 C (pc := 624) dL_law_624 ?_
  refine go_aload2 C (pc := 626) dL_law_626 ?_
  refine go_ciV0 C (pc := 627) obj_25 (c_X8_firstError C.fl C.ok μ2 w (H.mo hs) H.2.1 (H.tx hs) H.wl) gL_law_X8_firstError rfl rfl yok_X8_firstError ⟨rfl, rfl⟩ ⟨Nat.le_of_ble_eq_true rfl, Nat.le_of_ble_eq_true rfl⟩ (Nat.le_of_ble_eq_true rfl) hcs dL_law_627 (fun r6 μ3 hm => ?_)
  refine go_istore6 C (pc := 630) dL_law_630 ?_
  obtain ⟨t1, t2, t3⟩ : TailOK r5 r6 μ3 := m_firstError H (H.t29 hs) hc hm
  refine go_aload2 C (pc := 632) dL_law_632 ?_
  refine go_ciV0 C (pc := 633) obj_25 (c_X8_thrown C.fl C.ok μ3) gL_law_X8_thrown rfl rfl yok_X8_thrown ⟨rfl, rfl⟩ ⟨Nat.le_of_ble_eq_true rfl, Nat.le_of_ble_eq_true rfl⟩ (Nat.le_of_ble_eq_true rfl) hcs dL_law_633 (fun r7 μ4 h7 => ?_)
  obtain ⟨e7, e8⟩ := h7
  subst e7
  refine go_mem e8 ?_
  refine go_iload5 C (pc := 636) dL_law_636 ?_
  refine go_icmp_eq C (pc := 638) (tgt := 643) dL_law_638 (by decide) (fun _ => ?_) (fun z => absurd t1 z)
  refine go_iload5 C (pc := 643) dL_law_643 ?_
  have fin : Go p l e room_1 s m #[Value.ref b] below meth c (cells + 4) (slots + 24) Q (AL s) D ad cI cL 9 660 [some (.ref b), some (.ref (ad 0)), some (.ref (ad 25)), some (.ref (ad 33)), some (.int (nI (3 * t))), some (.int r5), some (.int r6), none, none] [] μ3 := by
    refine go_goto C (pc := 660) (tgt := 1737) dL_law_660 (by decide) ?_
    exact go_drop5 (go_drop6 (K μ3 t3))
  refine go_if_ne C (pc := 645) (tgt := 660) dL_law_645 (by decide) (fun _ => fin) (fun z => ?_)
  refine go_aload3 C (pc := 648) dL_law_648 ?_
  refine go_iconst C (pc := 649) (v := 0) (by decide) dL_law_649 ?_
  refine go_laldO C (pc := 650) dL_law_650 ?_
  refine go_long (congrArg Int32.toInt64 (t2 z)) ?_
  refine go_iload6 C (pc := 651) dL_law_651 ?_
  refine go_i2l C (pc := 653) dL_law_653 ?_
  refine go_lcmp C (pc := 654) dL_law_654 ?_
  exact go_if_eq C (pc := 655) (tgt := 660) dL_law_655 (by decide) (fun _ => fin) (fun y => absurd ((lg_cmp_eq _ _).mpr rfl) y)
set_option maxRecDepth 20000 in
set_option maxHeartbeats 4000000 in
theorem cs_10 {p : Program} {l : Launch} {e : Env} {s : State} {m : MethodId} {below : List Frame} {meth : Method} {c : Code} {cells slots : Nat} {Q : State → Prop} {D : va_G} {ad : Nat → Nat} {cI cL : ClassId} {b L : Nat} {xs : Nat → Int32} {μ : Mem} (CL : CxL p l s m b meth c D ad cI cL L xs) {t : Nat} (ht : 3 * t + 2 < L) (hcs : cells + 4 ≤ room_1.cells ∧ slots + 24 ≤ room_1.slots) (hI : Inv μ)
    (K : ∀ μ', Inv μ' → Go p l e room_1 s m #[Value.ref b] below meth c (cells + 4) (slots + 24) Q (AL s) D ad cI cL 9 1737 (lvN b ad t) [] μ') : Go p l e room_1 s m #[Value.ref b] below meth c cells slots Q (AL s) D ad cI cL 9 663 (lvN b ad t) [] μ := by
  obtain ⟨n, q, h, w, bs, H⟩ := hI
  have C := CL.1
  have hfl := C.fl
  have hok := C.ok
  refine go_lv (lv' := [some (.ref b), some (.ref (ad 0)), some (.ref (ad 25)), some (.ref (ad 33)), some (.int (nI (3 * t))), none, none, none, none]) rfl ?_
  refine go_aload1 C (pc := 663) dL_law_663 ?_
  refine go_aload3 C (pc := 664) dL_law_664 ?_
  refine go_ciL C CL.2.1 (pc := 665) (As := [.ref (ad 0), .ref (ad 33)]) (st := []) (h_undo hfl hok (c_X7_undo hfl hok μ q h H.ch) (fun E hx => hx.2)) rfl rfl gL_law_L_undo rfl yok_L_undo ⟨rfl, rfl⟩ ⟨Nat.le_of_ble_eq_true rfl, Nat.le_of_ble_eq_true rfl⟩ (Nat.le_of_ble_eq_true rfl) hcs dL_law_665 (fun r5 μ2 hc => ?_)
  have hs : same μ μ2 CC := hc.cc (fun v μ9 hf => by obtain ⟨_, -, -, -, -, -, gs⟩ := hf; exact gs.mono (by decide))
  refine go_istore5 C (pc := 668) dL_law_668 ?_
  refine go_aload2 C (pc := 670) dL_law_670 ?_
  refine go_ciV0 C (pc := 671) obj_25 (c_X8_undo C.fl C.ok μ2 (H.mh hs)) gL_law_X8_undo rfl rfl yok_X8_undo ⟨rfl, rfl⟩ ⟨Nat.le_of_ble_eq_true rfl, Nat.le_of_ble_eq_true rfl⟩ (Nat.le_of_ble_eq_true rfl) hcs dL_law_671 (fun r6 μ3 hm => ?_)
  refine go_istore6 C (pc := 674) dL_law_674 ?_
  obtain ⟨t1, t2, t3⟩ : TailOK r5 r6 μ3 := m_undo H hc hm
  refine go_aload2 C (pc := 676) dL_law_676 ?_
  refine go_ciV0 C (pc := 677) obj_25 (c_X8_thrown C.fl C.ok μ3) gL_law_X8_thrown rfl rfl yok_X8_thrown ⟨rfl, rfl⟩ ⟨Nat.le_of_ble_eq_true rfl, Nat.le_of_ble_eq_true rfl⟩ (Nat.le_of_ble_eq_true rfl) hcs dL_law_677 (fun r7 μ4 h7 => ?_)
  obtain ⟨e7, e8⟩ := h7
  subst e7
  refine go_mem e8 ?_
  refine go_iload5 C (pc := 680) dL_law_680 ?_
  refine go_icmp_eq C (pc := 682) (tgt := 687) dL_law_682 (by decide) (fun _ => ?_) (fun z => absurd t1 z)
  refine go_iload5 C (pc := 687) dL_law_687 ?_
  have fin : Go p l e room_1 s m #[Value.ref b] below meth c (cells + 4) (slots + 24) Q (AL s) D ad cI cL 9 704 [some (.ref b), some (.ref (ad 0)), some (.ref (ad 25)), some (.ref (ad 33)), some (.int (nI (3 * t))), some (.int r5), some (.int r6), none, none] [] μ3 := by
    refine go_goto C (pc := 704) (tgt := 1737) dL_law_704 (by decide) ?_
    exact go_drop5 (go_drop6 (K μ3 t3))
  refine go_if_ne C (pc := 689) (tgt := 704) dL_law_689 (by decide) (fun _ => fin) (fun z => ?_)
  refine go_aload3 C (pc := 692) dL_law_692 ?_
  refine go_iconst C (pc := 693) (v := 0) (by decide) dL_law_693 ?_
  refine go_laldO C (pc := 694) dL_law_694 ?_
  refine go_long (congrArg Int32.toInt64 (t2 z)) ?_
  refine go_iload6 C (pc := 695) dL_law_695 ?_
  refine go_i2l C (pc := 697) dL_law_697 ?_
  refine go_lcmp C (pc := 698) dL_law_698 ?_
  exact go_if_eq C (pc := 699) (tgt := 704) dL_law_699 (by decide) (fun _ => fin) (fun y => absurd ((lg_cmp_eq _ _).mpr rfl) y)
set_option maxRecDepth 20000 in
set_option maxHeartbeats 4000000 in
theorem cs_11 {p : Program} {l : Launch} {e : Env} {s : State} {m : MethodId} {below : List Frame} {meth : Method} {c : Code} {cells slots : Nat} {Q : State → Prop} {D : va_G} {ad : Nat → Nat} {cI cL : ClassId} {b L : Nat} {xs : Nat → Int32} {μ : Mem} (CL : CxL p l s m b meth c D ad cI cL L xs) {t : Nat} (ht : 3 * t + 2 < L) (hcs : cells + 4 ≤ room_1.cells ∧ slots + 24 ≤ room_1.slots) (hI : Inv μ)
    (K : ∀ μ', Inv μ' → Go p l e room_1 s m #[Value.ref b] below meth c (cells + 4) (slots + 24) Q (AL s) D ad cI cL 9 1737 (lvN b ad t) [] μ') : Go p l e room_1 s m #[Value.ref b] below meth c cells slots Q (AL s) D ad cI cL 9 707 (lvN b ad t) [] μ := by
  obtain ⟨n, q, h, w, bs, H⟩ := hI
  have C := CL.1
  have hfl := C.fl
  have hok := C.ok
  refine go_lv (lv' := [some (.ref b), some (.ref (ad 0)), some (.ref (ad 25)), some (.ref (ad 33)), some (.int (nI (3 * t))), none, none, none, none]) rfl ?_
  refine go_widen (k := cells + 4) (n := slots + 24) (Nat.le_add_right _ _) (Nat.le_add_right _ _) ?_
  refine go_aload1 C (pc := 707) dL_law_707 ?_
  refine go_ciV0 C (pc := 708) obj_0 (c_X7_takeSnapshot C.fl C.ok μ) gL_law_X7_takeSnapshot rfl rfl yok_X7_takeSnapshot ⟨rfl, rfl⟩ ⟨Nat.le_of_ble_eq_true rfl, Nat.le_of_ble_eq_true rfl⟩ (Nat.le_of_ble_eq_true rfl) hcs dL_law_708 (fun r5 μ2 hc => ?_)
  have hs : same μ μ2 CC := by rw [hc.2]; exact same.m2 (by decide) (by decide)
  refine go_aload2 C (pc := 711) dL_law_711 ?_
  refine go_ciV0 C (pc := 712) obj_25 (c_X8_takeSnapshot C.fl C.ok μ2 (H.mo hs) H.2.1) gL_law_X8_takeSnapshot rfl rfl yok_X8_takeSnapshot ⟨rfl, rfl⟩ ⟨Nat.le_of_ble_eq_true rfl, Nat.le_of_ble_eq_true rfl⟩ (Nat.le_of_ble_eq_true rfl) hcs dL_law_712 (fun r6 μ3 hm => ?_)
  obtain ⟨t2, t3⟩ := m_takeSnapshot H hc hm
  exact go_icmp_eq C (pc := 715) (tgt := 1737) dL_law_715 (by decide) (fun _ => K μ3 t3) (fun z => absurd t2 z)
