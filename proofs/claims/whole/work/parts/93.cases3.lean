set_option maxRecDepth 20000 in
set_option maxHeartbeats 4000000 in
theorem cs_24 {p : Program} {l : Launch} {e : Env} {s : State} {m : MethodId} {below : List Frame} {meth : Method} {c : Code} {cells slots : Nat} {Q : State → Prop} {D : va_G} {ad : Nat → Nat} {cI cL : ClassId} {b L : Nat} {xs : Nat → Int32} {μ : Mem} (CL : CxL p l s m b meth c D ad cI cL L xs) {t : Nat} (ht : 3 * t + 2 < L) (hcs : cells + 4 ≤ room_1.cells ∧ slots + 24 ≤ room_1.slots) (hI : Inv μ)
    (K : ∀ μ', Inv μ' → Go p l e room_1 s m #[Value.ref b] below meth c (cells + 4) (slots + 24) Q (AL s) D ad cI cL 9 1737 (lvN b ad t) [] μ') : Go p l e room_1 s m #[Value.ref b] below meth c cells slots Q (AL s) D ad cI cL 9 1215 (lvN b ad t) [] μ := by
  obtain ⟨n, q, h, w, bs, H⟩ := hI
  have C := CL.1
  have hfl := C.fl
  have hok := C.ok
  refine go_lv (lv' := [some (.ref b), some (.ref (ad 0)), some (.ref (ad 25)), some (.ref (ad 33)), some (.int (nI (3 * t))), none, none, none, none]) rfl ?_
  refine go_aload1 C (pc := 1215) dL_law_1215 ?_
  refine go_aload0 C (pc := 1216) dL_law_1216 ?_
  refine go_iload4 C (pc := 1217) dL_law_1217 ?_
  refine go_iconst C (pc := 1219) (v := 1) (by decide) dL_law_1219 ?_
  refine go_iadd C (pc := 1220) dL_law_1220 ?_
  refine go_sld CL (pc := 1221) (j := 3 * t + 1) (nI_3 t) (by omega) dL_law_1221 ?_
  refine go_aload0 C (pc := 1222) dL_law_1222 ?_
  refine go_iload4 C (pc := 1223) dL_law_1223 ?_
  refine go_iconst C (pc := 1225) (v := 2) (by decide) dL_law_1225 ?_
  refine go_iadd C (pc := 1226) dL_law_1226 ?_
  refine go_sld CL (pc := 1227) (j := 3 * t + 2) (nI_32 t) (by omega) dL_law_1227 ?_
  refine go_aload3 C (pc := 1228) dL_law_1228 ?_
  refine go_ciL C CL.2.1 (pc := 1229) (As := [.ref (ad 0), .int (xs (3 * t + 1)), .int (xs (3 * t + 2)), .ref (ad 33)]) (st := []) (h_wouldFall hfl hok (xs (3 * t + 1)) (xs (3 * t + 2)) (c_X7_wouldFall hfl hok μ (xs (3 * t + 1)) (xs (3 * t + 2)) H.1 H.2.1) (fun E hx => hx.elim (fun z => Or.inl (dem1_E z).2) (fun z => Or.inr (demK_E z.2).2))) rfl rfl gL_law_L_wouldFall rfl yok_L_wouldFall ⟨rfl, rfl⟩ ⟨Nat.le_of_ble_eq_true rfl, Nat.le_of_ble_eq_true rfl⟩ (Nat.le_of_ble_eq_true rfl) hcs dL_law_1229 (fun r5 μ2 hc => ?_)
  have hs : same μ μ2 CC := hc.cc (fun v μ9 hf => by obtain ⟨_, _, -, -, -, -, -, gs⟩ := hf; rw [gs]; exact same.rf)
  refine go_istore5 C (pc := 1232) dL_law_1232 ?_
  refine go_aload2 C (pc := 1234) dL_law_1234 ?_
  refine go_aload0 C (pc := 1235) dL_law_1235 ?_
  refine go_iload4 C (pc := 1236) dL_law_1236 ?_
  refine go_iconst C (pc := 1238) (v := 1) (by decide) dL_law_1238 ?_
  refine go_iadd C (pc := 1239) dL_law_1239 ?_
  refine go_sld CL (pc := 1240) (j := 3 * t + 1) (nI_3 t) (by omega) dL_law_1240 ?_
  refine go_aload0 C (pc := 1241) dL_law_1241 ?_
  refine go_iload4 C (pc := 1242) dL_law_1242 ?_
  refine go_iconst C (pc := 1244) (v := 2) (by decide) dL_law_1244 ?_
  refine go_iadd C (pc := 1245) dL_law_1245 ?_
  refine go_sld CL (pc := 1246) (j := 3 * t + 2) (nI_32 t) (by omega) dL_law_1246 ?_
  refine go_ciV2 C (pc := 1247) obj_25 (c_X8_wouldFall C.fl C.ok μ2 (xs (3 * t + 1)) (xs (3 * t + 2)) (H.mo hs) H.2.1) gL_law_X8_wouldFall rfl rfl yok_X8_wouldFall ⟨rfl, rfl⟩ ⟨Nat.le_of_ble_eq_true rfl, Nat.le_of_ble_eq_true rfl⟩ (Nat.le_of_ble_eq_true rfl) hcs dL_law_1247 (fun r6 μ3 hm => ?_)
  refine go_istore6 C (pc := 1250) dL_law_1250 ?_
  obtain ⟨t1, t2, t3⟩ : TailOK r5 r6 μ3 := m_wouldFall H hc hm
  refine go_aload2 C (pc := 1252) dL_law_1252 ?_
  refine go_ciV0 C (pc := 1253) obj_25 (c_X8_thrown C.fl C.ok μ3) gL_law_X8_thrown rfl rfl yok_X8_thrown ⟨rfl, rfl⟩ ⟨Nat.le_of_ble_eq_true rfl, Nat.le_of_ble_eq_true rfl⟩ (Nat.le_of_ble_eq_true rfl) hcs dL_law_1253 (fun r7 μ4 h7 => ?_)
  obtain ⟨e7, e8⟩ := h7
  subst e7
  refine go_mem e8 ?_
  refine go_iload5 C (pc := 1256) dL_law_1256 ?_
  refine go_icmp_eq C (pc := 1258) (tgt := 1263) dL_law_1258 (by decide) (fun _ => ?_) (fun z => absurd t1 z)
  refine go_iload5 C (pc := 1263) dL_law_1263 ?_
  have fin : Go p l e room_1 s m #[Value.ref b] below meth c (cells + 4) (slots + 24) Q (AL s) D ad cI cL 9 1280 [some (.ref b), some (.ref (ad 0)), some (.ref (ad 25)), some (.ref (ad 33)), some (.int (nI (3 * t))), some (.int r5), some (.int r6), none, none] [] μ3 := by
    refine go_goto C (pc := 1280) (tgt := 1737) dL_law_1280 (by decide) ?_
    exact go_drop5 (go_drop6 (K μ3 t3))
  refine go_if_ne C (pc := 1265) (tgt := 1280) dL_law_1265 (by decide) (fun _ => fin) (fun z => ?_)
  refine go_aload3 C (pc := 1268) dL_law_1268 ?_
  refine go_iconst C (pc := 1269) (v := 0) (by decide) dL_law_1269 ?_
  refine go_laldO C (pc := 1270) dL_law_1270 ?_
  refine go_long (congrArg Int32.toInt64 (t2 z)) ?_
  refine go_iload6 C (pc := 1271) dL_law_1271 ?_
  refine go_i2l C (pc := 1273) dL_law_1273 ?_
  refine go_lcmp C (pc := 1274) dL_law_1274 ?_
  exact go_if_eq C (pc := 1275) (tgt := 1280) dL_law_1275 (by decide) (fun _ => fin) (fun y => absurd ((lg_cmp_eq _ _).mpr rfl) y)
set_option maxRecDepth 20000 in
set_option maxHeartbeats 4000000 in
theorem cs_25 {p : Program} {l : Launch} {e : Env} {s : State} {m : MethodId} {below : List Frame} {meth : Method} {c : Code} {cells slots : Nat} {Q : State → Prop} {D : va_G} {ad : Nat → Nat} {cI cL : ClassId} {b L : Nat} {xs : Nat → Int32} {μ : Mem} (CL : CxL p l s m b meth c D ad cI cL L xs) {t : Nat} (ht : 3 * t + 2 < L) (hcs : cells + 4 ≤ room_1.cells ∧ slots + 24 ≤ room_1.slots) (hI : Inv μ)
    (K : ∀ μ', Inv μ' → Go p l e room_1 s m #[Value.ref b] below meth c (cells + 4) (slots + 24) Q (AL s) D ad cI cL 9 1737 (lvN b ad t) [] μ') : Go p l e room_1 s m #[Value.ref b] below meth c cells slots Q (AL s) D ad cI cL 9 1283 (lvN b ad t) [] μ := by
  obtain ⟨n, q, h, w, bs, H⟩ := hI
  have C := CL.1
  have hfl := C.fl
  have hok := C.ok
  refine go_lv (lv' := [some (.ref b), some (.ref (ad 0)), some (.ref (ad 25)), some (.ref (ad 33)), some (.int (nI (3 * t))), none, none, none, none]) rfl ?_
  refine go_aload1 C (pc := 1283) dL_law_1283 ?_
  refine go_aload0 C (pc := 1284) dL_law_1284 ?_
  refine go_iload4 C (pc := 1285) dL_law_1285 ?_
  refine go_iconst C (pc := 1287) (v := 1) (by decide) dL_law_1287 ?_
  refine go_iadd C (pc := 1288) dL_law_1288 ?_
  refine go_sld CL (pc := 1289) (j := 3 * t + 1) (nI_3 t) (by omega) dL_law_1289 ?_
  refine go_aload3 C (pc := 1290) dL_law_1290 ?_
  refine go_ciL C CL.2.1 (pc := 1291) (As := [.ref (ad 0), .int (xs (3 * t + 1)), .ref (ad 33)]) (st := []) (h_bestProp hfl hok (xs (3 * t + 1)) (c_X7_bestProp hfl hok μ (xs (3 * t + 1)) H.1 H.2.1) (fun E hx => hx.elim (fun z => Or.inl (demK_E z).2) (fun ⟨_, _, _, _, z⟩ => Or.inr z))) rfl rfl gL_law_L_bestProp rfl yok_L_bestProp ⟨rfl, rfl⟩ ⟨Nat.le_of_ble_eq_true rfl, Nat.le_of_ble_eq_true rfl⟩ (Nat.le_of_ble_eq_true rfl) hcs dL_law_1291 (fun r5 μ2 hc => ?_)
  have hs : same μ μ2 CC := hc.cc (fun v μ9 hf => by obtain ⟨_, -, -, -, -, gs⟩ := hf; rw [gs]; exact same.rf)
  refine go_istore5 C (pc := 1294) dL_law_1294 ?_
  refine go_aload2 C (pc := 1296) dL_law_1296 ?_
  refine go_aload0 C (pc := 1297) dL_law_1297 ?_
  refine go_iload4 C (pc := 1298) dL_law_1298 ?_
  refine go_iconst C (pc := 1300) (v := 1) (by decide) dL_law_1300 ?_
  refine go_iadd C (pc := 1301) dL_law_1301 ?_
  refine go_sld CL (pc := 1302) (j := 3 * t + 1) (nI_3 t) (by omega) dL_law_1302 ?_
  refine go_ciV1 C (pc := 1303) obj_25 (c_X8_bestProp C.fl C.ok μ2 (xs (3 * t + 1)) (H.mo hs) H.2.1) gL_law_X8_bestProp rfl rfl yok_X8_bestProp ⟨rfl, rfl⟩ ⟨Nat.le_of_ble_eq_true rfl, Nat.le_of_ble_eq_true rfl⟩ (Nat.le_of_ble_eq_true rfl) hcs dL_law_1303 (fun r6 μ3 hm => ?_)
  refine go_istore6 C (pc := 1306) dL_law_1306 ?_
  obtain ⟨t1, t2, t3⟩ : TailOK r5 r6 μ3 := m_bestProp H hc hm
  refine go_aload2 C (pc := 1308) dL_law_1308 ?_
  refine go_ciV0 C (pc := 1309) obj_25 (c_X8_thrown C.fl C.ok μ3) gL_law_X8_thrown rfl rfl yok_X8_thrown ⟨rfl, rfl⟩ ⟨Nat.le_of_ble_eq_true rfl, Nat.le_of_ble_eq_true rfl⟩ (Nat.le_of_ble_eq_true rfl) hcs dL_law_1309 (fun r7 μ4 h7 => ?_)
  obtain ⟨e7, e8⟩ := h7
  subst e7
  refine go_mem e8 ?_
  refine go_iload5 C (pc := 1312) dL_law_1312 ?_
  refine go_icmp_eq C (pc := 1314) (tgt := 1319) dL_law_1314 (by decide) (fun _ => ?_) (fun z => absurd t1 z)
  refine go_iload5 C (pc := 1319) dL_law_1319 ?_
  have fin : Go p l e room_1 s m #[Value.ref b] below meth c (cells + 4) (slots + 24) Q (AL s) D ad cI cL 9 1336 [some (.ref b), some (.ref (ad 0)), some (.ref (ad 25)), some (.ref (ad 33)), some (.int (nI (3 * t))), some (.int r5), some (.int r6), none, none] [] μ3 := by
    refine go_goto C (pc := 1336) (tgt := 1737) dL_law_1336 (by decide) ?_
    exact go_drop5 (go_drop6 (K μ3 t3))
  refine go_if_ne C (pc := 1321) (tgt := 1336) dL_law_1321 (by decide) (fun _ => fin) (fun z => ?_)
  refine go_aload3 C (pc := 1324) dL_law_1324 ?_
  refine go_iconst C (pc := 1325) (v := 0) (by decide) dL_law_1325 ?_
  refine go_laldO C (pc := 1326) dL_law_1326 ?_
  refine go_long (congrArg Int32.toInt64 (t2 z)) ?_
  refine go_iload6 C (pc := 1327) dL_law_1327 ?_
  refine go_i2l C (pc := 1329) dL_law_1329 ?_
  refine go_lcmp C (pc := 1330) dL_law_1330 ?_
  exact go_if_eq C (pc := 1331) (tgt := 1336) dL_law_1331 (by decide) (fun _ => fin) (fun y => absurd ((lg_cmp_eq _ _).mpr rfl) y)
set_option maxRecDepth 20000 in
set_option maxHeartbeats 4000000 in
theorem cs_26 {p : Program} {l : Launch} {e : Env} {s : State} {m : MethodId} {below : List Frame} {meth : Method} {c : Code} {cells slots : Nat} {Q : State → Prop} {D : va_G} {ad : Nat → Nat} {cI cL : ClassId} {b L : Nat} {xs : Nat → Int32} {μ : Mem} (CL : CxL p l s m b meth c D ad cI cL L xs) {t : Nat} (ht : 3 * t + 2 < L) (hcs : cells + 4 ≤ room_1.cells ∧ slots + 24 ≤ room_1.slots) (hI : Inv μ)
    (K : ∀ μ', Inv μ' → Go p l e room_1 s m #[Value.ref b] below meth c (cells + 4) (slots + 24) Q (AL s) D ad cI cL 9 1737 (lvN b ad t) [] μ') : Go p l e room_1 s m #[Value.ref b] below meth c cells slots Q (AL s) D ad cI cL 9 1339 (lvN b ad t) [] μ := by
  obtain ⟨n, q, h, w, bs, H⟩ := hI
  have C := CL.1
  have hfl := C.fl
  have hok := C.ok
  refine go_lv (lv' := [some (.ref b), some (.ref (ad 0)), some (.ref (ad 25)), some (.ref (ad 33)), some (.int (nI (3 * t))), none, none, none, none]) rfl ?_
  refine go_aload1 C (pc := 1339) dL_law_1339 ?_
  refine go_aload0 C (pc := 1340) dL_law_1340 ?_
  refine go_iload4 C (pc := 1341) dL_law_1341 ?_
  refine go_iconst C (pc := 1343) (v := 1) (by decide) dL_law_1343 ?_
  refine go_iadd C (pc := 1344) dL_law_1344 ?_
  refine go_sld CL (pc := 1345) (j := 3 * t + 1) (nI_3 t) (by omega) dL_law_1345 ?_
  refine go_aload0 C (pc := 1346) dL_law_1346 ?_
  refine go_iload4 C (pc := 1347) dL_law_1347 ?_
  refine go_iconst C (pc := 1349) (v := 2) (by decide) dL_law_1349 ?_
  refine go_iadd C (pc := 1350) dL_law_1350 ?_
  refine go_sld CL (pc := 1351) (j := 3 * t + 2) (nI_32 t) (by omega) dL_law_1351 ?_
  refine go_aload3 C (pc := 1352) dL_law_1352 ?_
  refine go_ciL C CL.2.1 (pc := 1353) (As := [.ref (ad 0), .int (xs (3 * t + 1)), .int (xs (3 * t + 2)), .ref (ad 33)]) (st := []) (h_support hfl hok (xs (3 * t + 1)) (xs (3 * t + 2)) (c_X7_support hfl hok μ (xs (3 * t + 1)) (xs (3 * t + 2)) H.1 H.2.1) (fun E hx => (demT_E hx).1)) rfl rfl gL_law_L_support rfl yok_L_support ⟨rfl, rfl⟩ ⟨Nat.le_of_ble_eq_true rfl, Nat.le_of_ble_eq_true rfl⟩ (Nat.le_of_ble_eq_true rfl) hcs dL_law_1353 (fun r5 μ2 hc => ?_)
  have hs : same μ μ2 CC := hc.cc (fun v μ9 hf => by obtain ⟨_, _, -, -, -, -, -, -, gs⟩ := hf; rw [gs]; exact same.rf)
  refine go_istore5 C (pc := 1356) dL_law_1356 ?_
  refine go_aload2 C (pc := 1358) dL_law_1358 ?_
  refine go_aload0 C (pc := 1359) dL_law_1359 ?_
  refine go_iload4 C (pc := 1360) dL_law_1360 ?_
  refine go_iconst C (pc := 1362) (v := 1) (by decide) dL_law_1362 ?_
  refine go_iadd C (pc := 1363) dL_law_1363 ?_
  refine go_sld CL (pc := 1364) (j := 3 * t + 1) (nI_3 t) (by omega) dL_law_1364 ?_
  refine go_aload0 C (pc := 1365) dL_law_1365 ?_
  refine go_iload4 C (pc := 1366) dL_law_1366 ?_
  refine go_iconst C (pc := 1368) (v := 2) (by decide) dL_law_1368 ?_
  refine go_iadd C (pc := 1369) dL_law_1369 ?_
  refine go_sld CL (pc := 1370) (j := 3 * t + 2) (nI_32 t) (by omega) dL_law_1370 ?_
  refine go_ciV2 C (pc := 1371) obj_25 (c_X8_support C.fl C.ok μ2 (xs (3 * t + 1)) (xs (3 * t + 2)) (H.mo hs) H.2.1) gL_law_X8_support rfl rfl yok_X8_support ⟨rfl, rfl⟩ ⟨Nat.le_of_ble_eq_true rfl, Nat.le_of_ble_eq_true rfl⟩ (Nat.le_of_ble_eq_true rfl) hcs dL_law_1371 (fun r6 μ3 hm => ?_)
  refine go_istore6 C (pc := 1374) dL_law_1374 ?_
  obtain ⟨t1, t2, t3⟩ : TailOK r5 r6 μ3 := q_T (P := (fun r i j => r = nI (ct (μ 3 i &&& μ 3 j)))) H (fun a b i j x y => x.trans y.symm) (fun v μ9 hf => by obtain ⟨i, j, a1, a2, a3, a4, a5, a6, gs⟩ := hf; exact ⟨i, j, a1, a2, a3, a4, a5, a6, by rw [gs]; exact same.rf⟩) hc hm (by decide)
  refine go_aload2 C (pc := 1376) dL_law_1376 ?_
  refine go_ciV0 C (pc := 1377) obj_25 (c_X8_thrown C.fl C.ok μ3) gL_law_X8_thrown rfl rfl yok_X8_thrown ⟨rfl, rfl⟩ ⟨Nat.le_of_ble_eq_true rfl, Nat.le_of_ble_eq_true rfl⟩ (Nat.le_of_ble_eq_true rfl) hcs dL_law_1377 (fun r7 μ4 h7 => ?_)
  obtain ⟨e7, e8⟩ := h7
  subst e7
  refine go_mem e8 ?_
  refine go_iload5 C (pc := 1380) dL_law_1380 ?_
  refine go_icmp_eq C (pc := 1382) (tgt := 1387) dL_law_1382 (by decide) (fun _ => ?_) (fun z => absurd t1 z)
  refine go_iload5 C (pc := 1387) dL_law_1387 ?_
  have fin : Go p l e room_1 s m #[Value.ref b] below meth c (cells + 4) (slots + 24) Q (AL s) D ad cI cL 9 1404 [some (.ref b), some (.ref (ad 0)), some (.ref (ad 25)), some (.ref (ad 33)), some (.int (nI (3 * t))), some (.int r5), some (.int r6), none, none] [] μ3 := by
    refine go_goto C (pc := 1404) (tgt := 1737) dL_law_1404 (by decide) ?_
    exact go_drop5 (go_drop6 (K μ3 t3))
  refine go_if_ne C (pc := 1389) (tgt := 1404) dL_law_1389 (by decide) (fun _ => fin) (fun z => ?_)
  refine go_aload3 C (pc := 1392) dL_law_1392 ?_
  refine go_iconst C (pc := 1393) (v := 0) (by decide) dL_law_1393 ?_
  refine go_laldO C (pc := 1394) dL_law_1394 ?_
  refine go_long (congrArg Int32.toInt64 (t2 z)) ?_
  refine go_iload6 C (pc := 1395) dL_law_1395 ?_
  refine go_i2l C (pc := 1397) dL_law_1397 ?_
  refine go_lcmp C (pc := 1398) dL_law_1398 ?_
  exact go_if_eq C (pc := 1399) (tgt := 1404) dL_law_1399 (by decide) (fun _ => fin) (fun y => absurd ((lg_cmp_eq _ _).mpr rfl) y)
set_option maxRecDepth 20000 in
set_option maxHeartbeats 4000000 in
theorem cs_27 {p : Program} {l : Launch} {e : Env} {s : State} {m : MethodId} {below : List Frame} {meth : Method} {c : Code} {cells slots : Nat} {Q : State → Prop} {D : va_G} {ad : Nat → Nat} {cI cL : ClassId} {b L : Nat} {xs : Nat → Int32} {μ : Mem} (CL : CxL p l s m b meth c D ad cI cL L xs) {t : Nat} (ht : 3 * t + 2 < L) (hcs : cells + 4 ≤ room_1.cells ∧ slots + 24 ≤ room_1.slots) (hI : Inv μ)
    (K : ∀ μ', Inv μ' → Go p l e room_1 s m #[Value.ref b] below meth c (cells + 4) (slots + 24) Q (AL s) D ad cI cL 9 1737 (lvN b ad t) [] μ') : Go p l e room_1 s m #[Value.ref b] below meth c cells slots Q (AL s) D ad cI cL 9 1407 (lvN b ad t) [] μ := by
  obtain ⟨n, q, h, w, bs, H⟩ := hI
  have C := CL.1
  have hfl := C.fl
  have hok := C.ok
  refine go_lv (lv' := [some (.ref b), some (.ref (ad 0)), some (.ref (ad 25)), some (.ref (ad 33)), some (.int (nI (3 * t))), none, none, none, none]) rfl ?_
  refine go_aload1 C (pc := 1407) dL_law_1407 ?_
  refine go_aload0 C (pc := 1408) dL_law_1408 ?_
  refine go_iload4 C (pc := 1409) dL_law_1409 ?_
  refine go_iconst C (pc := 1411) (v := 1) (by decide) dL_law_1411 ?_
  refine go_iadd C (pc := 1412) dL_law_1412 ?_
  refine go_sld CL (pc := 1413) (j := 3 * t + 1) (nI_3 t) (by omega) dL_law_1413 ?_
  refine go_aload0 C (pc := 1414) dL_law_1414 ?_
  refine go_iload4 C (pc := 1415) dL_law_1415 ?_
  refine go_iconst C (pc := 1417) (v := 2) (by decide) dL_law_1417 ?_
  refine go_iadd C (pc := 1418) dL_law_1418 ?_
  refine go_sld CL (pc := 1419) (j := 3 * t + 2) (nI_32 t) (by omega) dL_law_1419 ?_
  refine go_aload3 C (pc := 1420) dL_law_1420 ?_
  refine go_ciL C CL.2.1 (pc := 1421) (As := [.ref (ad 0), .int (xs (3 * t + 1)), .int (xs (3 * t + 2)), .ref (ad 33)]) (st := []) (h_trussOf hfl hok (xs (3 * t + 1)) (xs (3 * t + 2)) (c_X7_trussOf hfl hok μ (xs (3 * t + 1)) (xs (3 * t + 2)) H.1 H.2.1) (fun E hx => (demT_E hx).1)) rfl rfl gL_law_L_trussOf rfl yok_L_trussOf ⟨rfl, rfl⟩ ⟨Nat.le_of_ble_eq_true rfl, Nat.le_of_ble_eq_true rfl⟩ (Nat.le_of_ble_eq_true rfl) hcs dL_law_1421 (fun r5 μ2 hc => ?_)
  have hs : same μ μ2 CC := hc.cc (fun v μ9 hf => by obtain ⟨_, _, -, -, -, -, -, -, F, gs⟩ := hf; rw [gs]; exact same.m1 (by decide))
  refine go_istore5 C (pc := 1424) dL_law_1424 ?_
  refine go_aload2 C (pc := 1426) dL_law_1426 ?_
  refine go_aload0 C (pc := 1427) dL_law_1427 ?_
  refine go_iload4 C (pc := 1428) dL_law_1428 ?_
  refine go_iconst C (pc := 1430) (v := 1) (by decide) dL_law_1430 ?_
  refine go_iadd C (pc := 1431) dL_law_1431 ?_
  refine go_sld CL (pc := 1432) (j := 3 * t + 1) (nI_3 t) (by omega) dL_law_1432 ?_
  refine go_aload0 C (pc := 1433) dL_law_1433 ?_
  refine go_iload4 C (pc := 1434) dL_law_1434 ?_
  refine go_iconst C (pc := 1436) (v := 2) (by decide) dL_law_1436 ?_
  refine go_iadd C (pc := 1437) dL_law_1437 ?_
  refine go_sld CL (pc := 1438) (j := 3 * t + 2) (nI_32 t) (by omega) dL_law_1438 ?_
  refine go_ciV2 C (pc := 1439) obj_25 (c_X8_trussOf C.fl C.ok μ2 (xs (3 * t + 1)) (xs (3 * t + 2)) (H.mo hs) H.2.1) gL_law_X8_trussOf rfl rfl yok_X8_trussOf ⟨rfl, rfl⟩ ⟨Nat.le_of_ble_eq_true rfl, Nat.le_of_ble_eq_true rfl⟩ (Nat.le_of_ble_eq_true rfl) hcs dL_law_1439 (fun r6 μ3 hm => ?_)
  refine go_istore6 C (pc := 1442) dL_law_1442 ?_
  obtain ⟨t1, t2, t3⟩ : TailOK r5 r6 μ3 := q_T (P := (fun r i j => r = nI (trN (μ 3) n i j))) H (fun a b i j x y => x.trans y.symm) (fun v μ9 hf => by obtain ⟨i, j, a1, a2, a3, a4, a5, a6, gs⟩ := hf; exact ⟨i, j, a1, a2, a3, a4, a5, a6, by obtain ⟨F, gs⟩ := gs; rw [gs]; exact same.m1 (by decide)⟩) hc hm (by decide)
  refine go_aload2 C (pc := 1444) dL_law_1444 ?_
  refine go_ciV0 C (pc := 1445) obj_25 (c_X8_thrown C.fl C.ok μ3) gL_law_X8_thrown rfl rfl yok_X8_thrown ⟨rfl, rfl⟩ ⟨Nat.le_of_ble_eq_true rfl, Nat.le_of_ble_eq_true rfl⟩ (Nat.le_of_ble_eq_true rfl) hcs dL_law_1445 (fun r7 μ4 h7 => ?_)
  obtain ⟨e7, e8⟩ := h7
  subst e7
  refine go_mem e8 ?_
  refine go_iload5 C (pc := 1448) dL_law_1448 ?_
  refine go_icmp_eq C (pc := 1450) (tgt := 1455) dL_law_1450 (by decide) (fun _ => ?_) (fun z => absurd t1 z)
  refine go_iload5 C (pc := 1455) dL_law_1455 ?_
  have fin : Go p l e room_1 s m #[Value.ref b] below meth c (cells + 4) (slots + 24) Q (AL s) D ad cI cL 9 1472 [some (.ref b), some (.ref (ad 0)), some (.ref (ad 25)), some (.ref (ad 33)), some (.int (nI (3 * t))), some (.int r5), some (.int r6), none, none] [] μ3 := by
    refine go_goto C (pc := 1472) (tgt := 1737) dL_law_1472 (by decide) ?_
    exact go_drop5 (go_drop6 (K μ3 t3))
  refine go_if_ne C (pc := 1457) (tgt := 1472) dL_law_1457 (by decide) (fun _ => fin) (fun z => ?_)
  refine go_aload3 C (pc := 1460) dL_law_1460 ?_
  refine go_iconst C (pc := 1461) (v := 0) (by decide) dL_law_1461 ?_
  refine go_laldO C (pc := 1462) dL_law_1462 ?_
  refine go_long (congrArg Int32.toInt64 (t2 z)) ?_
  refine go_iload6 C (pc := 1463) dL_law_1463 ?_
  refine go_i2l C (pc := 1465) dL_law_1465 ?_
  refine go_lcmp C (pc := 1466) dL_law_1466 ?_
  exact go_if_eq C (pc := 1467) (tgt := 1472) dL_law_1467 (by decide) (fun _ => fin) (fun y => absurd ((lg_cmp_eq _ _).mpr rfl) y)
set_option maxRecDepth 20000 in
set_option maxHeartbeats 4000000 in
theorem cs_28 {p : Program} {l : Launch} {e : Env} {s : State} {m : MethodId} {below : List Frame} {meth : Method} {c : Code} {cells slots : Nat} {Q : State → Prop} {D : va_G} {ad : Nat → Nat} {cI cL : ClassId} {b L : Nat} {xs : Nat → Int32} {μ : Mem} (CL : CxL p l s m b meth c D ad cI cL L xs) {t : Nat} (ht : 3 * t + 2 < L) (hcs : cells + 4 ≤ room_1.cells ∧ slots + 24 ≤ room_1.slots) (hI : Inv μ)
    (K : ∀ μ', Inv μ' → Go p l e room_1 s m #[Value.ref b] below meth c (cells + 4) (slots + 24) Q (AL s) D ad cI cL 9 1737 (lvN b ad t) [] μ') : Go p l e room_1 s m #[Value.ref b] below meth c cells slots Q (AL s) D ad cI cL 9 1475 (lvN b ad t) [] μ := by
  obtain ⟨n, q, h, w, bs, H⟩ := hI
  have C := CL.1
  have hfl := C.fl
  have hok := C.ok
  refine go_lv (lv' := [some (.ref b), some (.ref (ad 0)), some (.ref (ad 25)), some (.ref (ad 33)), some (.int (nI (3 * t))), none, none, none, none]) rfl ?_
  refine go_aload1 C (pc := 1475) dL_law_1475 ?_
  refine go_aload0 C (pc := 1476) dL_law_1476 ?_
  refine go_iload4 C (pc := 1477) dL_law_1477 ?_
  refine go_iconst C (pc := 1479) (v := 1) (by decide) dL_law_1479 ?_
  refine go_iadd C (pc := 1480) dL_law_1480 ?_
  refine go_sld CL (pc := 1481) (j := 3 * t + 1) (nI_3 t) (by omega) dL_law_1481 ?_
  refine go_aload0 C (pc := 1482) dL_law_1482 ?_
  refine go_iload4 C (pc := 1483) dL_law_1483 ?_
  refine go_iconst C (pc := 1485) (v := 2) (by decide) dL_law_1485 ?_
  refine go_iadd C (pc := 1486) dL_law_1486 ?_
  refine go_sld CL (pc := 1487) (j := 3 * t + 2) (nI_32 t) (by omega) dL_law_1487 ?_
  refine go_aload3 C (pc := 1488) dL_law_1488 ?_
  refine go_ciL C CL.2.1 (pc := 1489) (As := [.ref (ad 0), .int (xs (3 * t + 1)), .int (xs (3 * t + 2)), .ref (ad 33)]) (st := []) (h_trussByRounds hfl hok (xs (3 * t + 1)) (xs (3 * t + 2)) (c_X7_trussByRounds hfl hok μ (xs (3 * t + 1)) (xs (3 * t + 2)) H.1 H.2.1) (fun E hx => (demT_E hx).1)) rfl rfl gL_law_L_trussByRounds rfl yok_L_trussByRounds ⟨rfl, rfl⟩ ⟨Nat.le_of_ble_eq_true rfl, Nat.le_of_ble_eq_true rfl⟩ (Nat.le_of_ble_eq_true rfl) hcs dL_law_1489 (fun r5 μ2 hc => ?_)
  have hs : same μ μ2 CC := hc.cc (fun v μ9 hf => by obtain ⟨_, _, -, -, -, -, -, -, F, gs⟩ := hf; rw [gs]; exact same.m1 (by decide))
  refine go_istore5 C (pc := 1492) dL_law_1492 ?_
  refine go_aload2 C (pc := 1494) dL_law_1494 ?_
  refine go_aload0 C (pc := 1495) dL_law_1495 ?_
  refine go_iload4 C (pc := 1496) dL_law_1496 ?_
  refine go_iconst C (pc := 1498) (v := 1) (by decide) dL_law_1498 ?_
  refine go_iadd C (pc := 1499) dL_law_1499 ?_
  refine go_sld CL (pc := 1500) (j := 3 * t + 1) (nI_3 t) (by omega) dL_law_1500 ?_
  refine go_aload0 C (pc := 1501) dL_law_1501 ?_
  refine go_iload4 C (pc := 1502) dL_law_1502 ?_
  refine go_iconst C (pc := 1504) (v := 2) (by decide) dL_law_1504 ?_
  refine go_iadd C (pc := 1505) dL_law_1505 ?_
  refine go_sld CL (pc := 1506) (j := 3 * t + 2) (nI_32 t) (by omega) dL_law_1506 ?_
  refine go_ciV2 C (pc := 1507) obj_25 (c_X8_trussByRounds C.fl C.ok μ2 (xs (3 * t + 1)) (xs (3 * t + 2)) (H.mo hs) H.2.1) gL_law_X8_trussByRounds rfl rfl yok_X8_trussByRounds ⟨rfl, rfl⟩ ⟨Nat.le_of_ble_eq_true rfl, Nat.le_of_ble_eq_true rfl⟩ (Nat.le_of_ble_eq_true rfl) hcs dL_law_1507 (fun r6 μ3 hm => ?_)
  refine go_istore6 C (pc := 1510) dL_law_1510 ?_
  obtain ⟨t1, t2, t3⟩ : TailOK r5 r6 μ3 := q_T (P := (fun r i j => r = nI (trN (μ 3) n i j))) H (fun a b i j x y => x.trans y.symm) (fun v μ9 hf => by obtain ⟨i, j, a1, a2, a3, a4, a5, a6, gs⟩ := hf; exact ⟨i, j, a1, a2, a3, a4, a5, a6, by obtain ⟨F, gs⟩ := gs; rw [gs]; exact same.m1 (by decide)⟩) hc hm (by decide)
  refine go_aload2 C (pc := 1512) dL_law_1512 ?_
  refine go_ciV0 C (pc := 1513) obj_25 (c_X8_thrown C.fl C.ok μ3) gL_law_X8_thrown rfl rfl yok_X8_thrown ⟨rfl, rfl⟩ ⟨Nat.le_of_ble_eq_true rfl, Nat.le_of_ble_eq_true rfl⟩ (Nat.le_of_ble_eq_true rfl) hcs dL_law_1513 (fun r7 μ4 h7 => ?_)
  obtain ⟨e7, e8⟩ := h7
  subst e7
  refine go_mem e8 ?_
  refine go_iload5 C (pc := 1516) dL_law_1516 ?_
  refine go_icmp_eq C (pc := 1518) (tgt := 1523) dL_law_1518 (by decide) (fun _ => ?_) (fun z => absurd t1 z)
  refine go_iload5 C (pc := 1523) dL_law_1523 ?_
  have fin : Go p l e room_1 s m #[Value.ref b] below meth c (cells + 4) (slots + 24) Q (AL s) D ad cI cL 9 1540 [some (.ref b), some (.ref (ad 0)), some (.ref (ad 25)), some (.ref (ad 33)), some (.int (nI (3 * t))), some (.int r5), some (.int r6), none, none] [] μ3 := by
    refine go_goto C (pc := 1540) (tgt := 1737) dL_law_1540 (by decide) ?_
    exact go_drop5 (go_drop6 (K μ3 t3))
  refine go_if_ne C (pc := 1525) (tgt := 1540) dL_law_1525 (by decide) (fun _ => fin) (fun z => ?_)
  refine go_aload3 C (pc := 1528) dL_law_1528 ?_
  refine go_iconst C (pc := 1529) (v := 0) (by decide) dL_law_1529 ?_
  refine go_laldO C (pc := 1530) dL_law_1530 ?_
  refine go_long (congrArg Int32.toInt64 (t2 z)) ?_
  refine go_iload6 C (pc := 1531) dL_law_1531 ?_
  refine go_i2l C (pc := 1533) dL_law_1533 ?_
  refine go_lcmp C (pc := 1534) dL_law_1534 ?_
  exact go_if_eq C (pc := 1535) (tgt := 1540) dL_law_1535 (by decide) (fun _ => fin) (fun y => absurd ((lg_cmp_eq _ _).mpr rfl) y)
set_option maxRecDepth 20000 in
set_option maxHeartbeats 4000000 in
theorem cs_29 {p : Program} {l : Launch} {e : Env} {s : State} {m : MethodId} {below : List Frame} {meth : Method} {c : Code} {cells slots : Nat} {Q : State → Prop} {D : va_G} {ad : Nat → Nat} {cI cL : ClassId} {b L : Nat} {xs : Nat → Int32} {μ : Mem} (CL : CxL p l s m b meth c D ad cI cL L xs) {t : Nat} (ht : 3 * t + 2 < L) (hcs : cells + 4 ≤ room_1.cells ∧ slots + 24 ≤ room_1.slots) (hI : Inv μ)
    (K : ∀ μ', Inv μ' → Go p l e room_1 s m #[Value.ref b] below meth c (cells + 4) (slots + 24) Q (AL s) D ad cI cL 9 1737 (lvN b ad t) [] μ') : Go p l e room_1 s m #[Value.ref b] below meth c cells slots Q (AL s) D ad cI cL 9 1543 (lvN b ad t) [] μ := by
  obtain ⟨n, q, h, w, bs, H⟩ := hI
  have C := CL.1
  have hfl := C.fl
  have hok := C.ok
  refine go_lv (lv' := [some (.ref b), some (.ref (ad 0)), some (.ref (ad 25)), some (.ref (ad 33)), some (.int (nI (3 * t))), none, none, none, none]) rfl ?_
  refine go_aload1 C (pc := 1543) dL_law_1543 ?_
  refine go_aload0 C (pc := 1544) dL_law_1544 ?_
  refine go_iload4 C (pc := 1545) dL_law_1545 ?_
  refine go_iconst C (pc := 1547) (v := 1) (by decide) dL_law_1547 ?_
  refine go_iadd C (pc := 1548) dL_law_1548 ?_
  refine go_sld CL (pc := 1549) (j := 3 * t + 1) (nI_3 t) (by omega) dL_law_1549 ?_
  refine go_aload3 C (pc := 1550) dL_law_1550 ?_
  refine go_ciL C CL.2.1 (pc := 1551) (As := [.ref (ad 0), .int (xs (3 * t + 1)), .ref (ad 33)]) (st := []) (h_trussSize hfl hok (xs (3 * t + 1)) (c_X7_trussSize hfl hok μ (xs (3 * t + 1)) H.1 H.2.1) (fun E hx => (demK_E hx).2)) rfl rfl gL_law_L_trussSize rfl yok_L_trussSize ⟨rfl, rfl⟩ ⟨Nat.le_of_ble_eq_true rfl, Nat.le_of_ble_eq_true rfl⟩ (Nat.le_of_ble_eq_true rfl) hcs dL_law_1551 (fun r5 μ2 hc => ?_)
  have hs : same μ μ2 CC := hc.cc (fun v μ9 hf => by obtain ⟨_, -, -, -, F, gs⟩ := hf; rw [gs]; exact same.m1 (by decide))
  refine go_istore5 C (pc := 1554) dL_law_1554 ?_
  refine go_aload2 C (pc := 1556) dL_law_1556 ?_
  refine go_aload0 C (pc := 1557) dL_law_1557 ?_
  refine go_iload4 C (pc := 1558) dL_law_1558 ?_
  refine go_iconst C (pc := 1560) (v := 1) (by decide) dL_law_1560 ?_
  refine go_iadd C (pc := 1561) dL_law_1561 ?_
  refine go_sld CL (pc := 1562) (j := 3 * t + 1) (nI_3 t) (by omega) dL_law_1562 ?_
  refine go_ciV1 C (pc := 1563) obj_25 (c_X8_trussSize C.fl C.ok μ2 (xs (3 * t + 1)) (H.mo hs) H.2.1) gL_law_X8_trussSize rfl rfl yok_X8_trussSize ⟨rfl, rfl⟩ ⟨Nat.le_of_ble_eq_true rfl, Nat.le_of_ble_eq_true rfl⟩ (Nat.le_of_ble_eq_true rfl) hcs dL_law_1563 (fun r6 μ3 hm => ?_)
  refine go_istore6 C (pc := 1566) dL_law_1566 ?_
  obtain ⟨t1, t2, t3⟩ : TailOK r5 r6 μ3 := q_K (P := (fun r k => r = trS (μ 3) n k)) H (fun a b j x y => x.trans y.symm) (fun v μ9 hf => by obtain ⟨j, a1, a2, a3, gs⟩ := hf; exact ⟨j, a1, a2, a3, by obtain ⟨F, gs⟩ := gs; rw [gs]; exact same.m1 (by decide)⟩) hc hm (by decide)
  refine go_aload2 C (pc := 1568) dL_law_1568 ?_
  refine go_ciV0 C (pc := 1569) obj_25 (c_X8_thrown C.fl C.ok μ3) gL_law_X8_thrown rfl rfl yok_X8_thrown ⟨rfl, rfl⟩ ⟨Nat.le_of_ble_eq_true rfl, Nat.le_of_ble_eq_true rfl⟩ (Nat.le_of_ble_eq_true rfl) hcs dL_law_1569 (fun r7 μ4 h7 => ?_)
  obtain ⟨e7, e8⟩ := h7
  subst e7
  refine go_mem e8 ?_
  refine go_iload5 C (pc := 1572) dL_law_1572 ?_
  refine go_icmp_eq C (pc := 1574) (tgt := 1579) dL_law_1574 (by decide) (fun _ => ?_) (fun z => absurd t1 z)
  refine go_iload5 C (pc := 1579) dL_law_1579 ?_
  have fin : Go p l e room_1 s m #[Value.ref b] below meth c (cells + 4) (slots + 24) Q (AL s) D ad cI cL 9 1596 [some (.ref b), some (.ref (ad 0)), some (.ref (ad 25)), some (.ref (ad 33)), some (.int (nI (3 * t))), some (.int r5), some (.int r6), none, none] [] μ3 := by
    refine go_goto C (pc := 1596) (tgt := 1737) dL_law_1596 (by decide) ?_
    exact go_drop5 (go_drop6 (K μ3 t3))
  refine go_if_ne C (pc := 1581) (tgt := 1596) dL_law_1581 (by decide) (fun _ => fin) (fun z => ?_)
  refine go_aload3 C (pc := 1584) dL_law_1584 ?_
  refine go_iconst C (pc := 1585) (v := 0) (by decide) dL_law_1585 ?_
  refine go_laldO C (pc := 1586) dL_law_1586 ?_
  refine go_long (congrArg Int32.toInt64 (t2 z)) ?_
  refine go_iload6 C (pc := 1587) dL_law_1587 ?_
  refine go_i2l C (pc := 1589) dL_law_1589 ?_
  refine go_lcmp C (pc := 1590) dL_law_1590 ?_
  exact go_if_eq C (pc := 1591) (tgt := 1596) dL_law_1591 (by decide) (fun _ => fin) (fun y => absurd ((lg_cmp_eq _ _).mpr rfl) y)
set_option maxRecDepth 20000 in
set_option maxHeartbeats 4000000 in
theorem cs_30 {p : Program} {l : Launch} {e : Env} {s : State} {m : MethodId} {below : List Frame} {meth : Method} {c : Code} {cells slots : Nat} {Q : State → Prop} {D : va_G} {ad : Nat → Nat} {cI cL : ClassId} {b L : Nat} {xs : Nat → Int32} {μ : Mem} (CL : CxL p l s m b meth c D ad cI cL L xs) {t : Nat} (ht : 3 * t + 2 < L) (hcs : cells + 4 ≤ room_1.cells ∧ slots + 24 ≤ room_1.slots) (hI : Inv μ)
    (K : ∀ μ', Inv μ' → Go p l e room_1 s m #[Value.ref b] below meth c (cells + 4) (slots + 24) Q (AL s) D ad cI cL 9 1737 (lvN b ad t) [] μ') : Go p l e room_1 s m #[Value.ref b] below meth c cells slots Q (AL s) D ad cI cL 9 1599 (lvN b ad t) [] μ := by
  obtain ⟨n, q, h, w, bs, H⟩ := hI
  have C := CL.1
  have hfl := C.fl
  have hok := C.ok
  refine go_lv (lv' := [some (.ref b), some (.ref (ad 0)), some (.ref (ad 25)), some (.ref (ad 33)), some (.int (nI (3 * t))), none, none, none, none]) rfl ?_
  refine go_aload1 C (pc := 1599) dL_law_1599 ?_
  refine go_aload0 C (pc := 1600) dL_law_1600 ?_
  refine go_iload4 C (pc := 1601) dL_law_1601 ?_
  refine go_iconst C (pc := 1603) (v := 1) (by decide) dL_law_1603 ?_
  refine go_iadd C (pc := 1604) dL_law_1604 ?_
  refine go_sld CL (pc := 1605) (j := 3 * t + 1) (nI_3 t) (by omega) dL_law_1605 ?_
  refine go_aload3 C (pc := 1606) dL_law_1606 ?_
  refine go_ciL C CL.2.1 (pc := 1607) (As := [.ref (ad 0), .int (xs (3 * t + 1)), .ref (ad 33)]) (st := []) (h_colorOf hfl hok (xs (3 * t + 1)) (c_X7_colorOf hfl hok μ (xs (3 * t + 1)) H.1 H.2.1) (fun E hx => (dem1_E hx).2)) rfl rfl gL_law_L_colorOf rfl yok_L_colorOf ⟨rfl, rfl⟩ ⟨Nat.le_of_ble_eq_true rfl, Nat.le_of_ble_eq_true rfl⟩ (Nat.le_of_ble_eq_true rfl) hcs dL_law_1607 (fun r5 μ2 hc => ?_)
  have hs : same μ μ2 CC := hc.cc (fun v μ9 hf => by obtain ⟨_, -, -, -, F, G, gs⟩ := hf; rw [gs]; exact same.m2 (by decide) (by decide))
  refine go_istore5 C (pc := 1610) dL_law_1610 ?_
  refine go_aload2 C (pc := 1612) dL_law_1612 ?_
  refine go_aload0 C (pc := 1613) dL_law_1613 ?_
  refine go_iload4 C (pc := 1614) dL_law_1614 ?_
  refine go_iconst C (pc := 1616) (v := 1) (by decide) dL_law_1616 ?_
  refine go_iadd C (pc := 1617) dL_law_1617 ?_
  refine go_sld CL (pc := 1618) (j := 3 * t + 1) (nI_3 t) (by omega) dL_law_1618 ?_
  refine go_ciV1 C (pc := 1619) obj_25 (c_X8_colorOf C.fl C.ok μ2 (xs (3 * t + 1)) (H.mo hs) H.2.1) gL_law_X8_colorOf rfl rfl yok_X8_colorOf ⟨rfl, rfl⟩ ⟨Nat.le_of_ble_eq_true rfl, Nat.le_of_ble_eq_true rfl⟩ (Nat.le_of_ble_eq_true rfl) hcs dL_law_1619 (fun r6 μ3 hm => ?_)
  refine go_istore6 C (pc := 1622) dL_law_1622 ?_
  obtain ⟨t1, t2, t3⟩ : TailOK r5 r6 μ3 := q_1 (P := (fun r j => r = nI (colN (μ 3) (μ 1 1) n j))) H (fun a b j x y => x.trans y.symm) (fun v μ9 hf => by obtain ⟨j, a1, a2, a3, gs⟩ := hf; exact ⟨j, a1, a2, a3, by obtain ⟨F, G, gs⟩ := gs; rw [gs]; exact same.m2 (by decide) (by decide)⟩) hc hm (by decide)
  refine go_aload2 C (pc := 1624) dL_law_1624 ?_
  refine go_ciV0 C (pc := 1625) obj_25 (c_X8_thrown C.fl C.ok μ3) gL_law_X8_thrown rfl rfl yok_X8_thrown ⟨rfl, rfl⟩ ⟨Nat.le_of_ble_eq_true rfl, Nat.le_of_ble_eq_true rfl⟩ (Nat.le_of_ble_eq_true rfl) hcs dL_law_1625 (fun r7 μ4 h7 => ?_)
  obtain ⟨e7, e8⟩ := h7
  subst e7
  refine go_mem e8 ?_
  refine go_iload5 C (pc := 1628) dL_law_1628 ?_
  refine go_icmp_eq C (pc := 1630) (tgt := 1635) dL_law_1630 (by decide) (fun _ => ?_) (fun z => absurd t1 z)
  refine go_iload5 C (pc := 1635) dL_law_1635 ?_
  have fin : Go p l e room_1 s m #[Value.ref b] below meth c (cells + 4) (slots + 24) Q (AL s) D ad cI cL 9 1652 [some (.ref b), some (.ref (ad 0)), some (.ref (ad 25)), some (.ref (ad 33)), some (.int (nI (3 * t))), some (.int r5), some (.int r6), none, none] [] μ3 := by
    refine go_goto C (pc := 1652) (tgt := 1737) dL_law_1652 (by decide) ?_
    exact go_drop5 (go_drop6 (K μ3 t3))
  refine go_if_ne C (pc := 1637) (tgt := 1652) dL_law_1637 (by decide) (fun _ => fin) (fun z => ?_)
  refine go_aload3 C (pc := 1640) dL_law_1640 ?_
  refine go_iconst C (pc := 1641) (v := 0) (by decide) dL_law_1641 ?_
  refine go_laldO C (pc := 1642) dL_law_1642 ?_
  refine go_long (congrArg Int32.toInt64 (t2 z)) ?_
  refine go_iload6 C (pc := 1643) dL_law_1643 ?_
  refine go_i2l C (pc := 1645) dL_law_1645 ?_
  refine go_lcmp C (pc := 1646) dL_law_1646 ?_
  exact go_if_eq C (pc := 1647) (tgt := 1652) dL_law_1647 (by decide) (fun _ => fin) (fun y => absurd ((lg_cmp_eq _ _).mpr rfl) y)
set_option maxRecDepth 20000 in
set_option maxHeartbeats 4000000 in
theorem cs_31 {p : Program} {l : Launch} {e : Env} {s : State} {m : MethodId} {below : List Frame} {meth : Method} {c : Code} {cells slots : Nat} {Q : State → Prop} {D : va_G} {ad : Nat → Nat} {cI cL : ClassId} {b L : Nat} {xs : Nat → Int32} {μ : Mem} (CL : CxL p l s m b meth c D ad cI cL L xs) {t : Nat} (ht : 3 * t + 2 < L) (hcs : cells + 4 ≤ room_1.cells ∧ slots + 24 ≤ room_1.slots) (hI : Inv μ)
    (K : ∀ μ', Inv μ' → Go p l e room_1 s m #[Value.ref b] below meth c (cells + 4) (slots + 24) Q (AL s) D ad cI cL 9 1737 (lvN b ad t) [] μ') : Go p l e room_1 s m #[Value.ref b] below meth c cells slots Q (AL s) D ad cI cL 9 1655 (lvN b ad t) [] μ := by
  obtain ⟨n, q, h, w, bs, H⟩ := hI
  have C := CL.1
  have hfl := C.fl
  have hok := C.ok
  refine go_lv (lv' := [some (.ref b), some (.ref (ad 0)), some (.ref (ad 25)), some (.ref (ad 33)), some (.int (nI (3 * t))), none, none, none, none]) rfl ?_
  refine go_widen (k := cells + 4) (n := slots + 24) (Nat.le_add_right _ _) (Nat.le_add_right _ _) ?_
  refine go_aload1 C (pc := 1655) dL_law_1655 ?_
  refine go_ciV0 C (pc := 1656) obj_0 (c_X7_colors C.fl C.ok μ H.1 H.2.1) gL_law_X7_colors rfl rfl yok_X7_colors ⟨rfl, rfl⟩ ⟨Nat.le_of_ble_eq_true rfl, Nat.le_of_ble_eq_true rfl⟩ (Nat.le_of_ble_eq_true rfl) hcs dL_law_1656 (fun r5 μ2 hc => ?_)
  have hq : same μ μ2 SC := by obtain ⟨-, F, G, gs⟩ := hc; rw [gs]; exact same.m2 (by decide) (by decide)
  have hs : same μ μ2 CC := hq.mono (by decide)
  refine go_aload2 C (pc := 1659) dL_law_1659 ?_
  refine go_ciV0 C (pc := 1660) obj_25 (c_X8_colors C.fl C.ok μ2 (H.mo hs) H.2.1) gL_law_X8_colors rfl rfl yok_X8_colors ⟨rfl, rfl⟩ ⟨Nat.le_of_ble_eq_true rfl, Nat.le_of_ble_eq_true rfl⟩ (Nat.le_of_ble_eq_true rfl) hcs dL_law_1660 (fun r6 μ3 hm => ?_)
  have t2 : r5 = r6 := hc.1.trans hm.1.symm
  have t3 : Inv μ3 := inv_q H hq hm.2.2 (by decide)
  exact go_icmp_eq C (pc := 1663) (tgt := 1737) dL_law_1663 (by decide) (fun _ => K μ3 t3) (fun z => absurd t2 z)
set_option maxRecDepth 20000 in
set_option maxHeartbeats 4000000 in
theorem cs_32 {p : Program} {l : Launch} {e : Env} {s : State} {m : MethodId} {below : List Frame} {meth : Method} {c : Code} {cells slots : Nat} {Q : State → Prop} {D : va_G} {ad : Nat → Nat} {cI cL : ClassId} {b L : Nat} {xs : Nat → Int32} {μ : Mem} (CL : CxL p l s m b meth c D ad cI cL L xs) {t : Nat} (ht : 3 * t + 2 < L) (hcs : cells + 4 ≤ room_1.cells ∧ slots + 24 ≤ room_1.slots) (hI : Inv μ)
    (K : ∀ μ', Inv μ' → Go p l e room_1 s m #[Value.ref b] below meth c (cells + 4) (slots + 24) Q (AL s) D ad cI cL 9 1737 (lvN b ad t) [] μ') : Go p l e room_1 s m #[Value.ref b] below meth c cells slots Q (AL s) D ad cI cL 9 1668 (lvN b ad t) [] μ := by
  obtain ⟨n, q, h, w, bs, H⟩ := hI
  have C := CL.1
  have hfl := C.fl
  have hok := C.ok
  refine go_lv (lv' := [some (.ref b), some (.ref (ad 0)), some (.ref (ad 25)), some (.ref (ad 33)), some (.int (nI (3 * t))), none, none, none, none]) rfl ?_
  refine go_widen (k := cells + 4) (n := slots + 24) (Nat.le_add_right _ _) (Nat.le_add_right _ _) ?_
  refine go_aload1 C (pc := 1668) dL_law_1668 ?_
  refine go_ciV0 C (pc := 1669) obj_0 (c_X7_greatestCore C.fl C.ok μ H.1 H.2.1) gL_law_X7_greatestCore rfl rfl yok_X7_greatestCore ⟨rfl, rfl⟩ ⟨Nat.le_of_ble_eq_true rfl, Nat.le_of_ble_eq_true rfl⟩ (Nat.le_of_ble_eq_true rfl) hcs dL_law_1669 (fun r5 μ2 hc => ?_)
  have hq : same μ μ2 SC := by rw [hc.2]; exact same.rf
  have hs : same μ μ2 CC := hq.mono (by decide)
  refine go_aload2 C (pc := 1672) dL_law_1672 ?_
  refine go_ciV0 C (pc := 1673) obj_25 (c_X8_greatestCore C.fl C.ok μ2 (H.mo hs) H.2.1) gL_law_X8_greatestCore rfl rfl yok_X8_greatestCore ⟨rfl, rfl⟩ ⟨Nat.le_of_ble_eq_true rfl, Nat.le_of_ble_eq_true rfl⟩ (Nat.le_of_ble_eq_true rfl) hcs dL_law_1673 (fun r6 μ3 hm => ?_)
  have t2 : r5 = r6 := hc.1.trans hm.1.symm
  have t3 : Inv μ3 := inv_q H hq hm.2.2 (by decide)
  exact go_icmp_eq C (pc := 1676) (tgt := 1737) dL_law_1676 (by decide) (fun _ => K μ3 t3) (fun z => absurd t2 z)
set_option maxRecDepth 20000 in
set_option maxHeartbeats 4000000 in
theorem cs_33 {p : Program} {l : Launch} {e : Env} {s : State} {m : MethodId} {below : List Frame} {meth : Method} {c : Code} {cells slots : Nat} {Q : State → Prop} {D : va_G} {ad : Nat → Nat} {cI cL : ClassId} {b L : Nat} {xs : Nat → Int32} {μ : Mem} (CL : CxL p l s m b meth c D ad cI cL L xs) {t : Nat} (ht : 3 * t + 2 < L) (hcs : cells + 4 ≤ room_1.cells ∧ slots + 24 ≤ room_1.slots) (hI : Inv μ)
    (K : ∀ μ', Inv μ' → Go p l e room_1 s m #[Value.ref b] below meth c (cells + 4) (slots + 24) Q (AL s) D ad cI cL 9 1737 (lvN b ad t) [] μ') : Go p l e room_1 s m #[Value.ref b] below meth c cells slots Q (AL s) D ad cI cL 9 1681 (lvN b ad t) [] μ := by
  obtain ⟨n, q, h, w, bs, H⟩ := hI
  have C := CL.1
  have hfl := C.fl
  have hok := C.ok
  intro ls H0 locs hl hP hS
  refine W.widen (k := cells + 4) (n := slots + 24) (Nat.le_add_right _ _) (Nat.le_add_right _ _) ?_
  have hx := C.1.1
  have hb := C.1.2.1
  have hl : lv_has ls 9 [(0, .ref b), (1, .ref (ad 0)), (2, .ref (ad 25)), (3, .ref (ad 33)), (4, .int (nI (3 * t)))] := lh_has hl
  refine lv_aload_n hx hb dL_law_1681 rfl (lv_at hl 1 rfl) ?_
  refine va_callf (va_runV (As := []) (rest := []) C.1 (c_X7_averageNeighbors hfl hok μ H.1 H.2.1) (cwV 0 C.1.2.2.2.2 gL_law_X7_averageNeighbors rfl rfl rfl ⟨rfl, yok_X7_averageNeighbors⟩ ⟨Nat.le_of_ble_eq_true rfl, Nat.le_of_ble_eq_true rfl⟩) (preV_cx C hP obj_0 []) rfl rfl hl.1 rfl (lv_room (Nat.le_of_ble_eq_true rfl)) dL_law_1682 hcs) hS (fun q _ h => C.2.2.2.2.2.1 q h) C.2.2.2.2.2.1 (fun r5 μ2 t1 H1 locs1 ht1 hvm1 hf1 hB1 hz1 hk1 hS1 => ?_)
  obtain ⟨e5, e2⟩ := hf1
  have hP1 : va_P D vwCl (wd ad cI cL μ2) H1 := by rw [← ht1]; exact hB1.1
  rw [e2] at hP1
  rw [e5]
  have hne := avg_n64 H.2.1
  refine lv_f2d hx hb dL_law_1685 hne ?_
  refine lv_dstore (lv' := [(5, .double (FP.f2d (avgF (μ 3) n))), (0, .ref b), (1, .ref (ad 0)), (2, .ref (ad 25)), (3, .ref (ad 33)), (4, .int (nI (3 * t)))]) hx hb dL_law_1686 hl (by decide) rfl (fun ls hl => ?_)
  refine lv_aload_n hx hb dL_law_1688 rfl (lv_at hl 3 rfl) ?_
  refine va_callf (va_runV (As := []) (rest := []) C.1 (c_X8_averageNeighbors hfl hok μ (H.mo same.rf) H.2.1) (cwV 0 C.1.2.2.2.2 gL_law_X8_averageNeighbors rfl rfl rfl ⟨rfl, yok_X8_averageNeighbors⟩ ⟨Nat.le_of_ble_eq_true rfl, Nat.le_of_ble_eq_true rfl⟩) (preV_cx C hP1 obj_25 []) rfl rfl hl.1 rfl (lv_room (Nat.le_of_ble_eq_true rfl)) dL_law_1689 hcs) hS1 (fun q _ h => C.2.2.2.2.2.1 q h) C.2.2.2.2.2.1 (fun r6 μ3 t2 H2 locs2 ht2 hvm2 hf2 hB2 hz2 hk2 hS2 => ?_)
  obtain ⟨e6, -, kk⟩ := hf2
  have hP2 : va_P D vwCl (wd ad cI cL μ3) H2 := by rw [← ht2]; exact hB2.1
  rw [e6]
  have t3 : Inv μ3 := inv_q H same.rf kk (by decide)
  refine lv_f2d hx hb dL_law_1692 hne ?_
  generalize FP.f2d (avgF (μ 3) n) = x at hl ⊢
  refine lv_dstore (lv' := [(7, .double x), (5, .double x), (0, .ref b), (1, .ref (ad 0)), (2, .ref (ad 25)), (3, .ref (ad 33)), (4, .int (nI (3 * t)))]) hx hb dL_law_1693 hl (by decide) rfl (fun ls hl => ?_)
  have fin : W p l e room_1 s m #[Value.ref b] below meth c H2 locs2 (cells + 4) (slots + 24) Q (F0 m 1721 ls []) := by
    refine lv_goto (tgt := 1737) hx hb dL_law_1721 (by decide) ?_
    refine K μ3 t3 ls H2 locs2 ⟨hl.1, hl.2.1, rfl, fun i v hv => ?_⟩ hP2 hS2
    match i, hv with
    | 0, hv => cases hv; exact ⟨lv_at hl 2 rfl, rfl⟩
    | 1, hv => cases hv; exact ⟨lv_at hl 3 rfl, rfl⟩
    | 2, hv => cases hv; exact ⟨lv_at hl 4 rfl, rfl⟩
    | 3, hv => cases hv; exact ⟨lv_at hl 5 rfl, rfl⟩
    | 4, hv => cases hv; exact ⟨lv_at hl 6 rfl, rfl⟩
    | 5, hv => cases hv
    | 6, hv => cases hv
    | 7, hv => cases hv
    | 8, hv => cases hv
    | k + 9, hv => simp at hv
  refine lv_dload hx hb dL_law_1695 (lv_at hl 1 rfl) ?_
  refine lv_dload hx hb dL_law_1697 (lv_at hl 0 rfl) ?_
  refine lv_dcmp hx hb dL_law_1699 ?_
  refine lv_if_eq (tgt := 1721) hx hb dL_law_1700 (by decide) (fun _ => fin) (fun z => ?_)
  refine lv_dload hx hb dL_law_1703 (lv_at hl 1 rfl) ?_
  refine lv_dload hx hb dL_law_1705 (lv_at hl 1 rfl) ?_
  refine lv_dcmp hx hb dL_law_1707 ?_
  refine lv_if_eq (tgt := 1719) hx hb dL_law_1708 (by decide) (fun y => absurd y z) (fun _ => ?_)
  refine lv_dload hx hb dL_law_1711 (lv_at hl 0 rfl) ?_
  refine lv_dload hx hb dL_law_1713 (lv_at hl 0 rfl) ?_
  refine lv_dcmp hx hb dL_law_1715 ?_
  exact lv_if_ne (tgt := 1721) hx hb dL_law_1716 (by decide) (fun _ => fin) (fun y => absurd y z)
set_option maxRecDepth 20000 in
set_option maxHeartbeats 4000000 in
theorem cs_34 {p : Program} {l : Launch} {e : Env} {s : State} {m : MethodId} {below : List Frame} {meth : Method} {c : Code} {cells slots : Nat} {Q : State → Prop} {D : va_G} {ad : Nat → Nat} {cI cL : ClassId} {b L : Nat} {xs : Nat → Int32} {μ : Mem} (CL : CxL p l s m b meth c D ad cI cL L xs) {t : Nat} (ht : 3 * t + 2 < L) (hcs : cells + 4 ≤ room_1.cells ∧ slots + 24 ≤ room_1.slots) (hI : Inv μ)
    (K : ∀ μ', Inv μ' → Go p l e room_1 s m #[Value.ref b] below meth c (cells + 4) (slots + 24) Q (AL s) D ad cI cL 9 1737 (lvN b ad t) [] μ') : Go p l e room_1 s m #[Value.ref b] below meth c cells slots Q (AL s) D ad cI cL 9 1724 (lvN b ad t) [] μ := by
  obtain ⟨n, q, h, w, bs, H⟩ := hI
  have C := CL.1
  have hfl := C.fl
  have hok := C.ok
  refine go_lv (lv' := [some (.ref b), some (.ref (ad 0)), some (.ref (ad 25)), some (.ref (ad 33)), some (.int (nI (3 * t))), none, none, none, none]) rfl ?_
  refine go_widen (k := cells + 4) (n := slots + 24) (Nat.le_add_right _ _) (Nat.le_add_right _ _) ?_
  refine go_aload1 C (pc := 1724) dL_law_1724 ?_
  refine go_ciV0 C (pc := 1725) obj_0 (c_X7_historySize C.fl C.ok μ) gL_law_X7_historySize rfl rfl yok_X7_historySize ⟨rfl, rfl⟩ ⟨Nat.le_of_ble_eq_true rfl, Nat.le_of_ble_eq_true rfl⟩ (Nat.le_of_ble_eq_true rfl) hcs dL_law_1725 (fun r5 μ2 hc => ?_)
  have hq : same μ μ2 SC := by rw [hc.2]; exact same.rf
  have hs : same μ μ2 CC := hq.mono (by decide)
  refine go_aload2 C (pc := 1728) dL_law_1728 ?_
  refine go_ciV0 C (pc := 1729) obj_25 (c_X8_historySize C.fl C.ok μ2 (H.mo hs) H.2.1) gL_law_X8_historySize rfl rfl yok_X8_historySize ⟨rfl, rfl⟩ ⟨Nat.le_of_ble_eq_true rfl, Nat.le_of_ble_eq_true rfl⟩ (Nat.le_of_ble_eq_true rfl) hcs dL_law_1729 (fun r6 μ3 hm => ?_)
  have t2 : r5 = r6 := by
    obtain ⟨o9, -, -, z9, -⟩ := H.ch
    rw [hc.1, hm.1, z9, (H.mh hs).1]
  have t3 : Inv μ3 := inv_q H hq hm.2.2 (by decide)
  exact go_icmp_eq C (pc := 1732) (tgt := 1737) dL_law_1732 (by decide) (fun _ => K μ3 t3) (fun z => absurd t2 z)
