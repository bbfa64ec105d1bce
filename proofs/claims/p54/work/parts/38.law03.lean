set_option maxHeartbeats 8000000 in
set_option maxRecDepth 100000 in
theorem law_c33 {p : Program} {e : Env} {s : State} {m : MethodId} {below : List Frame} {meth : Method} {c : Code} (l : Launch) {b L : Nat} {xs : Nat → Int32} (hL : L ≤ 3072) (hx : p.tables.exec = Jvm.exec) (hb : c.code = code) (hr : meth.sig.returnType = ret) (hml : c.maxLocals = 4) (hown : s.vm.findClass RL = some m.cls) (hts : ∀ w ∈ wq, w.before #[Value.ref b] s = true) (hX : va_X b L xs s s.heap) (hbl : b < s.heap.size) (hlocks : meth.locks = false) {D : va_G} {c0 : Nat → ClassId} {Y1 Y2 : Nat → Option Nat} {o1 o2 : Nat} {adK adV : Nat → Nat} (hK : va_K D vwCl (tysOf c0) s) (hSO : SO (fun q : Nat => s.heap.size ≤ q) adK adV s s.heap) (hdis : ∀ q, pA Y1 q → pA Y2 q → False) (hU : uq Y2) (hy1 : Y1 o1 = some 9) (hA1 : ∀ q, pA Y1 q → s.heap.size ≤ q) (hy2 : Y2 o2 = some 10) (hA2 : ∀ q, pA Y2 q → s.heap.size ≤ q) {ν2 : Nat → Nat} {i : Int32} {H : Heap} {locs : List Loc} {ls : Array Slot} (hi : iv i 0 3066) (hiL : i.toInt + 6 ≤ (L : Int)) (hT1 : TI D vwCl (tysOf c0) (RTg (fun _ => 0)) Y1 H) (hT2 : TI D vwCl (tysOf c0) (RTg ν2) Y2 H) (hν : nuOK ν2) (hS : va_S (fun q : Nat => s.heap.size ≤ q) s.heap H locs) (hl : lv_has ls 4 [(3, .int i), (2, .ref o2), (1, .ref o1), (0, .ref b)]) (nxt : ∀ (ν2 : Nat → Nat) (H : Heap) (locs : List Loc), TI D vwCl (tysOf c0) (RTg (fun _ => 0)) Y1 H → TI D vwCl (tysOf c0) (RTg ν2) Y2 H → nuOK ν2 → va_S (fun q : Nat => s.heap.size ≤ q) s.heap H locs → W p l e room_1 s m #[Value.ref b] below meth c H locs 188 7230 (lw_Z below #[Value.ref b] s) (F0 m 2019 ls [])) : W p l e room_1 s m #[Value.ref b] below meth c H locs 188 7230 (lw_Z below #[Value.ref b] s) (F0 m 1283 ls []) := by
  have hbA : ¬ (fun q : Nat => s.heap.size ≤ q) b := Nat.not_le.mpr hbl
  refine lv_aload_n hx hb dL_law_1283 rfl (lv_at hl 2 rfl) ?_
  refine lv_aload_n hx hb dL_law_1284 rfl (lv_at hl 3 rfl) ?_
  refine lv_iload_n hx hb dL_law_1285 rfl (lv_at hl 0 rfl) ?_
  refine lv_iconst (v := 1) hx hb dL_law_1286 (by decide) ?_
  refine lv_iadd hx hb dL_law_1287 ?_
  refine va_sld (i := i + 1) hx hb hX hbl hbA hS (law_in hi hiL (d := 1) (by decide) (by decide) (by decide)) dL_law_1288 ?_
  refine ti_calli (va_runV (As := [.int (xs (i + 1).toNatClampNeg)]) (rest := []) ⟨hx, hb, hml, hown, hts⟩ (t_X9_know l hT1 hy1 (iv_top _)) (cwV 1 hts (good_V kw_1263 kw_1264 kw_1265 kw_2 kw_1266) rfl rfl rfl (by decide +kernel) ⟨by decide, by decide⟩) (ti_preV hK hT1 hy1 rfl rfl) rfl rfl hl.1 rfl (lv_room (Nat.le_of_ble_eq_true rfl)) dL_law_1289 ⟨by decide, by decide⟩) hS (fun q h => hA1 q (pW_pA h)) (fun r1 H locs hB hS _ hk => ?_)
  have hT1 := hB
  have hT2 := TI.frameW hT2 hdis hk
  refine lv_pop hx hb dL_law_1292 rfl ?_
  refine lv_aload_n hx hb dL_law_1293 rfl (lv_at hl 1 rfl) ?_
  refine lv_aload_n hx hb dL_law_1294 rfl (lv_at hl 3 rfl) ?_
  refine lv_iload_n hx hb dL_law_1295 rfl (lv_at hl 0 rfl) ?_
  refine lv_iconst (v := 1) hx hb dL_law_1296 (by decide) ?_
  refine lv_iadd hx hb dL_law_1297 ?_
  refine va_sld (i := i + 1) hx hb hX hbl hbA hS (law_in hi hiL (d := 1) (by decide) (by decide) (by decide)) dL_law_1298 ?_
  refine ti_calli (va_runV (As := [.int (xs (i + 1).toNatClampNeg)]) (rest := []) ⟨hx, hb, hml, hown, hts⟩ (t_X10_know l hT2 hy2 (iv_top _) hU) (cwV 1 hts (good_V kw_1271 kw_1272 kw_1273 kw_5 kw_1274) rfl rfl rfl (by decide +kernel) ⟨by decide, by decide⟩) (ti_preV hK hT2 hy2 rfl rfl) rfl rfl hl.1 rfl (lv_room (Nat.le_of_ble_eq_true rfl)) dL_law_1299 ⟨by decide, by decide⟩) hS (fun q h => hA2 q (pW_pA h)) (fun r2 H locs hB hS _ hk => ?_)
  have hT2 := hB
  have hT1 := TI.frameW hT1 (fun q h1 h2 => hdis q h2 h1) hk
  refine lv_pop hx hb dL_law_1302 rfl ?_
  refine lv_goto (tgt := 2019) hx hb dL_law_1303 (by decide) ?_
  exact nxt ν2 H locs hT1 hT2 hν hS
set_option maxHeartbeats 8000000 in
set_option maxRecDepth 100000 in
theorem law_c34 {p : Program} {e : Env} {s : State} {m : MethodId} {below : List Frame} {meth : Method} {c : Code} (l : Launch) {b L : Nat} {xs : Nat → Int32} (hL : L ≤ 3072) (hx : p.tables.exec = Jvm.exec) (hb : c.code = code) (hr : meth.sig.returnType = ret) (hml : c.maxLocals = 4) (hown : s.vm.findClass RL = some m.cls) (hts : ∀ w ∈ wq, w.before #[Value.ref b] s = true) (hX : va_X b L xs s s.heap) (hbl : b < s.heap.size) (hlocks : meth.locks = false) {D : va_G} {c0 : Nat → ClassId} {Y1 Y2 : Nat → Option Nat} {o1 o2 : Nat} {adK adV : Nat → Nat} (hK : va_K D vwCl (tysOf c0) s) (hSO : SO (fun q : Nat => s.heap.size ≤ q) adK adV s s.heap) (hdis : ∀ q, pA Y1 q → pA Y2 q → False) (hU : uq Y2) (hy1 : Y1 o1 = some 9) (hA1 : ∀ q, pA Y1 q → s.heap.size ≤ q) (hy2 : Y2 o2 = some 10) (hA2 : ∀ q, pA Y2 q → s.heap.size ≤ q) {ν2 : Nat → Nat} {i : Int32} {H : Heap} {locs : List Loc} {ls : Array Slot} (hi : iv i 0 3066) (hiL : i.toInt + 6 ≤ (L : Int)) (hT1 : TI D vwCl (tysOf c0) (RTg (fun _ => 0)) Y1 H) (hT2 : TI D vwCl (tysOf c0) (RTg ν2) Y2 H) (hν : nuOK ν2) (hS : va_S (fun q : Nat => s.heap.size ≤ q) s.heap H locs) (hl : lv_has ls 4 [(3, .int i), (2, .ref o2), (1, .ref o1), (0, .ref b)]) (nxt : ∀ (ν2 : Nat → Nat) (H : Heap) (locs : List Loc), TI D vwCl (tysOf c0) (RTg (fun _ => 0)) Y1 H → TI D vwCl (tysOf c0) (RTg ν2) Y2 H → nuOK ν2 → va_S (fun q : Nat => s.heap.size ≤ q) s.heap H locs → W p l e room_1 s m #[Value.ref b] below meth c H locs 188 7230 (lw_Z below #[Value.ref b] s) (F0 m 2019 ls [])) : W p l e room_1 s m #[Value.ref b] below meth c H locs 188 7230 (lw_Z below #[Value.ref b] s) (F0 m 1306 ls []) := by
  have hbA : ¬ (fun q : Nat => s.heap.size ≤ q) b := Nat.not_le.mpr hbl
  refine lv_aload_n hx hb dL_law_1306 rfl (lv_at hl 2 rfl) ?_
  refine lv_aload_n hx hb dL_law_1307 rfl (lv_at hl 3 rfl) ?_
  refine lv_iload_n hx hb dL_law_1308 rfl (lv_at hl 0 rfl) ?_
  refine lv_iconst (v := 1) hx hb dL_law_1309 (by decide) ?_
  refine lv_iadd hx hb dL_law_1310 ?_
  refine va_sld (i := i + 1) hx hb hX hbl hbA hS (law_in hi hiL (d := 1) (by decide) (by decide) (by decide)) dL_law_1311 ?_
  refine lv_aload_n hx hb dL_law_1312 rfl (lv_at hl 3 rfl) ?_
  refine lv_iload_n hx hb dL_law_1313 rfl (lv_at hl 0 rfl) ?_
  refine lv_iconst (v := 2) hx hb dL_law_1314 (by decide) ?_
  refine lv_iadd hx hb dL_law_1315 ?_
  refine va_sld (i := i + 2) hx hb hX hbl hbA hS (law_in hi hiL (d := 2) (by decide) (by decide) (by decide)) dL_law_1316 ?_
  refine ti_calli (va_runV (As := [.int (xs (i + 1).toNatClampNeg), .int (xs (i + 2).toNatClampNeg)]) (rest := []) ⟨hx, hb, hml, hown, hts⟩ (t_X9_knows l hT1 hy1 (iv_top _) (iv_top _)) (cwV 2 hts (good_V kw_1287 kw_1288 kw_1289 kw_2 kw_1290) rfl rfl rfl (by decide +kernel) ⟨by decide, by decide⟩) (ti_preV hK hT1 hy1 rfl rfl) rfl rfl hl.1 rfl (lv_room (Nat.le_of_ble_eq_true rfl)) dL_law_1317 ⟨by decide, by decide⟩) hS (fun q h => hA1 q (pW_pA h)) (fun r1 H locs hB hS _ hk => ?_)
  have hT1 := hB
  have hT2 := TI.frameW hT2 hdis hk
  refine lv_pop hx hb dL_law_1320 rfl ?_
  refine lv_aload_n hx hb dL_law_1321 rfl (lv_at hl 1 rfl) ?_
  refine lv_aload_n hx hb dL_law_1322 rfl (lv_at hl 3 rfl) ?_
  refine lv_iload_n hx hb dL_law_1323 rfl (lv_at hl 0 rfl) ?_
  refine lv_iconst (v := 1) hx hb dL_law_1324 (by decide) ?_
  refine lv_iadd hx hb dL_law_1325 ?_
  refine va_sld (i := i + 1) hx hb hX hbl hbA hS (law_in hi hiL (d := 1) (by decide) (by decide) (by decide)) dL_law_1326 ?_
  refine lv_aload_n hx hb dL_law_1327 rfl (lv_at hl 3 rfl) ?_
  refine lv_iload_n hx hb dL_law_1328 rfl (lv_at hl 0 rfl) ?_
  refine lv_iconst (v := 2) hx hb dL_law_1329 (by decide) ?_
  refine lv_iadd hx hb dL_law_1330 ?_
  refine va_sld (i := i + 2) hx hb hX hbl hbA hS (law_in hi hiL (d := 2) (by decide) (by decide) (by decide)) dL_law_1331 ?_
  refine ti_calli (va_runV (As := [.int (xs (i + 1).toNatClampNeg), .int (xs (i + 2).toNatClampNeg)]) (rest := []) ⟨hx, hb, hml, hown, hts⟩ (t_X10_knows l hT2 hy2 (iv_top _) (iv_top _) hU) (cwV 2 hts (good_V kw_1291 kw_1292 kw_1293 kw_5 kw_1294) rfl rfl rfl (by decide +kernel) ⟨by decide, by decide⟩) (ti_preV hK hT2 hy2 rfl rfl) rfl rfl hl.1 rfl (lv_room (Nat.le_of_ble_eq_true rfl)) dL_law_1332 ⟨by decide, by decide⟩) hS (fun q h => hA2 q (pW_pA h)) (fun r2 H locs hB hS _ hk => ?_)
  have hT2 := hB
  have hT1 := TI.frameW hT1 (fun q h1 h2 => hdis q h2 h1) hk
  refine lv_pop hx hb dL_law_1335 rfl ?_
  refine lv_goto (tgt := 2019) hx hb dL_law_1336 (by decide) ?_
  exact nxt ν2 H locs hT1 hT2 hν hS
set_option maxHeartbeats 8000000 in
set_option maxRecDepth 100000 in
theorem law_c35 {p : Program} {e : Env} {s : State} {m : MethodId} {below : List Frame} {meth : Method} {c : Code} (l : Launch) {b L : Nat} {xs : Nat → Int32} (hL : L ≤ 3072) (hx : p.tables.exec = Jvm.exec) (hb : c.code = code) (hr : meth.sig.returnType = ret) (hml : c.maxLocals = 4) (hown : s.vm.findClass RL = some m.cls) (hts : ∀ w ∈ wq, w.before #[Value.ref b] s = true) (hX : va_X b L xs s s.heap) (hbl : b < s.heap.size) (hlocks : meth.locks = false) {D : va_G} {c0 : Nat → ClassId} {Y1 Y2 : Nat → Option Nat} {o1 o2 : Nat} {adK adV : Nat → Nat} (hK : va_K D vwCl (tysOf c0) s) (hSO : SO (fun q : Nat => s.heap.size ≤ q) adK adV s s.heap) (hdis : ∀ q, pA Y1 q → pA Y2 q → False) (hU : uq Y2) (hy1 : Y1 o1 = some 9) (hA1 : ∀ q, pA Y1 q → s.heap.size ≤ q) (hy2 : Y2 o2 = some 10) (hA2 : ∀ q, pA Y2 q → s.heap.size ≤ q) {ν2 : Nat → Nat} {i : Int32} {H : Heap} {locs : List Loc} {ls : Array Slot} (hi : iv i 0 3066) (hiL : i.toInt + 6 ≤ (L : Int)) (hT1 : TI D vwCl (tysOf c0) (RTg (fun _ => 0)) Y1 H) (hT2 : TI D vwCl (tysOf c0) (RTg ν2) Y2 H) (hν : nuOK ν2) (hS : va_S (fun q : Nat => s.heap.size ≤ q) s.heap H locs) (hl : lv_has ls 4 [(3, .int i), (2, .ref o2), (1, .ref o1), (0, .ref b)]) (nxt : ∀ (ν2 : Nat → Nat) (H : Heap) (locs : List Loc), TI D vwCl (tysOf c0) (RTg (fun _ => 0)) Y1 H → TI D vwCl (tysOf c0) (RTg ν2) Y2 H → nuOK ν2 → va_S (fun q : Nat => s.heap.size ≤ q) s.heap H locs → W p l e room_1 s m #[Value.ref b] below meth c H locs 188 7230 (lw_Z below #[Value.ref b] s) (F0 m 2019 ls [])) : W p l e room_1 s m #[Value.ref b] below meth c H locs 188 7230 (lw_Z below #[Value.ref b] s) (F0 m 1339 ls []) := by
  have hbA : ¬ (fun q : Nat => s.heap.size ≤ q) b := Nat.not_le.mpr hbl
  refine lv_aload_n hx hb dL_law_1339 rfl (lv_at hl 2 rfl) ?_
  refine lv_aload_n hx hb dL_law_1340 rfl (lv_at hl 3 rfl) ?_
  refine lv_iload_n hx hb dL_law_1341 rfl (lv_at hl 0 rfl) ?_
  refine lv_iconst (v := 1) hx hb dL_law_1342 (by decide) ?_
  refine lv_iadd hx hb dL_law_1343 ?_
  refine va_sld (i := i + 1) hx hb hX hbl hbA hS (law_in hi hiL (d := 1) (by decide) (by decide) (by decide)) dL_law_1344 ?_
  refine lv_aload_n hx hb dL_law_1345 rfl (lv_at hl 3 rfl) ?_
  refine lv_iload_n hx hb dL_law_1346 rfl (lv_at hl 0 rfl) ?_
  refine lv_iconst (v := 2) hx hb dL_law_1347 (by decide) ?_
  refine lv_iadd hx hb dL_law_1348 ?_
  refine va_sld (i := i + 2) hx hb hX hbl hbA hS (law_in hi hiL (d := 2) (by decide) (by decide) (by decide)) dL_law_1349 ?_
  refine lv_aload_n hx hb dL_law_1350 rfl (lv_at hl 3 rfl) ?_
  refine lv_iload_n hx hb dL_law_1351 rfl (lv_at hl 0 rfl) ?_
  refine lv_iconst (v := 3) hx hb dL_law_1352 (by decide) ?_
  refine lv_iadd hx hb dL_law_1353 ?_
  refine va_sld (i := i + 3) hx hb hX hbl hbA hS (law_in hi hiL (d := 3) (by decide) (by decide) (by decide)) dL_law_1354 ?_
  refine ti_calli (va_runV (As := [.int (xs (i + 1).toNatClampNeg), .int (xs (i + 2).toNatClampNeg), .int (xs (i + 3).toNatClampNeg)]) (rest := []) ⟨hx, hb, hml, hown, hts⟩ (t_X9_lend l hT1 hy1 (iv_top _) (iv_top _) (iv_top _)) (cwV 3 hts (good_V kw_1295 kw_1296 kw_1297 kw_2 kw_1298) rfl rfl rfl (by decide +kernel) ⟨by decide, by decide⟩) (ti_preV hK hT1 hy1 rfl rfl) rfl rfl hl.1 rfl (lv_room (Nat.le_of_ble_eq_true rfl)) dL_law_1355 ⟨by decide, by decide⟩) hS (fun q h => hA1 q (pW_pA h)) (fun r1 H locs hB hS _ hk => ?_)
  obtain ⟨hT1, ir1⟩ := hB
  have hT2 := TI.frameW hT2 hdis hk
  refine lv_pop hx hb dL_law_1358 rfl ?_
  refine lv_aload_n hx hb dL_law_1359 rfl (lv_at hl 1 rfl) ?_
  refine lv_aload_n hx hb dL_law_1360 rfl (lv_at hl 3 rfl) ?_
  refine lv_iload_n hx hb dL_law_1361 rfl (lv_at hl 0 rfl) ?_
  refine lv_iconst (v := 1) hx hb dL_law_1362 (by decide) ?_
  refine lv_iadd hx hb dL_law_1363 ?_
  refine va_sld (i := i + 1) hx hb hX hbl hbA hS (law_in hi hiL (d := 1) (by decide) (by decide) (by decide)) dL_law_1364 ?_
  refine lv_aload_n hx hb dL_law_1365 rfl (lv_at hl 3 rfl) ?_
  refine lv_iload_n hx hb dL_law_1366 rfl (lv_at hl 0 rfl) ?_
  refine lv_iconst (v := 2) hx hb dL_law_1367 (by decide) ?_
  refine lv_iadd hx hb dL_law_1368 ?_
  refine va_sld (i := i + 2) hx hb hX hbl hbA hS (law_in hi hiL (d := 2) (by decide) (by decide) (by decide)) dL_law_1369 ?_
  refine lv_aload_n hx hb dL_law_1370 rfl (lv_at hl 3 rfl) ?_
  refine lv_iload_n hx hb dL_law_1371 rfl (lv_at hl 0 rfl) ?_
  refine lv_iconst (v := 3) hx hb dL_law_1372 (by decide) ?_
  refine lv_iadd hx hb dL_law_1373 ?_
  refine va_sld (i := i + 3) hx hb hX hbl hbA hS (law_in hi hiL (d := 3) (by decide) (by decide) (by decide)) dL_law_1374 ?_
  refine ti_calli (va_runV (As := [.int (xs (i + 1).toNatClampNeg), .int (xs (i + 2).toNatClampNeg), .int (xs (i + 3).toNatClampNeg)]) (rest := []) ⟨hx, hb, hml, hown, hts⟩ (t_X10_lend l hT2 hy2 (iv_top _) (iv_top _) (iv_top _) hU) (cwV 3 hts (good_V kw_1309 kw_1310 kw_1311 kw_5 kw_1312) rfl rfl rfl (by decide +kernel) ⟨by decide, by decide⟩) (ti_preV hK hT2 hy2 rfl rfl) rfl rfl hl.1 rfl (lv_room (Nat.le_of_ble_eq_true rfl)) dL_law_1375 ⟨by decide, by decide⟩) hS (fun q h => hA2 q (pW_pA h)) (fun r2 H locs hB hS _ hk => ?_)
  obtain ⟨hT2, ir2⟩ := hB
  have hT1 := TI.frameW hT1 (fun q h1 h2 => hdis q h2 h1) hk
  refine lv_pop hx hb dL_law_1378 rfl ?_
  refine lv_goto (tgt := 2019) hx hb dL_law_1379 (by decide) ?_
  exact nxt ν2 H locs hT1 hT2 hν hS
set_option maxHeartbeats 8000000 in
set_option maxRecDepth 100000 in
theorem law_c36 {p : Program} {e : Env} {s : State} {m : MethodId} {below : List Frame} {meth : Method} {c : Code} (l : Launch) {b L : Nat} {xs : Nat → Int32} (hL : L ≤ 3072) (hx : p.tables.exec = Jvm.exec) (hb : c.code = code) (hr : meth.sig.returnType = ret) (hml : c.maxLocals = 4) (hown : s.vm.findClass RL = some m.cls) (hts : ∀ w ∈ wq, w.before #[Value.ref b] s = true) (hX : va_X b L xs s s.heap) (hbl : b < s.heap.size) (hlocks : meth.locks = false) {D : va_G} {c0 : Nat → ClassId} {Y1 Y2 : Nat → Option Nat} {o1 o2 : Nat} {adK adV : Nat → Nat} (hK : va_K D vwCl (tysOf c0) s) (hSO : SO (fun q : Nat => s.heap.size ≤ q) adK adV s s.heap) (hdis : ∀ q, pA Y1 q → pA Y2 q → False) (hU : uq Y2) (hy1 : Y1 o1 = some 9) (hA1 : ∀ q, pA Y1 q → s.heap.size ≤ q) (hy2 : Y2 o2 = some 10) (hA2 : ∀ q, pA Y2 q → s.heap.size ≤ q) {ν2 : Nat → Nat} {i : Int32} {H : Heap} {locs : List Loc} {ls : Array Slot} (hi : iv i 0 3066) (hiL : i.toInt + 6 ≤ (L : Int)) (hT1 : TI D vwCl (tysOf c0) (RTg (fun _ => 0)) Y1 H) (hT2 : TI D vwCl (tysOf c0) (RTg ν2) Y2 H) (hν : nuOK ν2) (hS : va_S (fun q : Nat => s.heap.size ≤ q) s.heap H locs) (hl : lv_has ls 4 [(3, .int i), (2, .ref o2), (1, .ref o1), (0, .ref b)]) (nxt : ∀ (ν2 : Nat → Nat) (H : Heap) (locs : List Loc), TI D vwCl (tysOf c0) (RTg (fun _ => 0)) Y1 H → TI D vwCl (tysOf c0) (RTg ν2) Y2 H → nuOK ν2 → va_S (fun q : Nat => s.heap.size ≤ q) s.heap H locs → W p l e room_1 s m #[Value.ref b] below meth c H locs 188 7230 (lw_Z below #[Value.ref b] s) (F0 m 2019 ls [])) : W p l e room_1 s m #[Value.ref b] below meth c H locs 188 7230 (lw_Z below #[Value.ref b] s) (F0 m 1382 ls []) := by
  have hbA : ¬ (fun q : Nat => s.heap.size ≤ q) b := Nat.not_le.mpr hbl
  refine lv_aload_n hx hb dL_law_1382 rfl (lv_at hl 2 rfl) ?_
  refine lv_aload_n hx hb dL_law_1383 rfl (lv_at hl 3 rfl) ?_
  refine lv_iload_n hx hb dL_law_1384 rfl (lv_at hl 0 rfl) ?_
  refine lv_iconst (v := 1) hx hb dL_law_1385 (by decide) ?_
  refine lv_iadd hx hb dL_law_1386 ?_
  refine va_sld (i := i + 1) hx hb hX hbl hbA hS (law_in hi hiL (d := 1) (by decide) (by decide) (by decide)) dL_law_1387 ?_
  refine lv_aload_n hx hb dL_law_1388 rfl (lv_at hl 3 rfl) ?_
  refine lv_iload_n hx hb dL_law_1389 rfl (lv_at hl 0 rfl) ?_
  refine lv_iconst (v := 2) hx hb dL_law_1390 (by decide) ?_
  refine lv_iadd hx hb dL_law_1391 ?_
  refine va_sld (i := i + 2) hx hb hX hbl hbA hS (law_in hi hiL (d := 2) (by decide) (by decide) (by decide)) dL_law_1392 ?_
  refine ti_calli (va_runV (As := [.int (xs (i + 1).toNatClampNeg), .int (xs (i + 2).toNatClampNeg)]) (rest := []) ⟨hx, hb, hml, hown, hts⟩ (t_X9_round l hT1 hy1 (iv_top _) (iv_top _)) (cwV 2 hts (good_V kw_1317 kw_1318 kw_1319 kw_2 kw_1320) rfl rfl rfl (by decide +kernel) ⟨by decide, by decide⟩) (ti_preV hK hT1 hy1 rfl rfl) rfl rfl hl.1 rfl (lv_room (Nat.le_of_ble_eq_true rfl)) dL_law_1393 ⟨by decide, by decide⟩) hS (fun q h => hA1 q (pW_pA h)) (fun r1 H locs hB hS _ hk => ?_)
  obtain ⟨hT1, ir1⟩ := hB
  have hT2 := TI.frameW hT2 hdis hk
  refine lv_pop hx hb dL_law_1396 rfl ?_
  refine lv_aload_n hx hb dL_law_1397 rfl (lv_at hl 1 rfl) ?_
  refine lv_aload_n hx hb dL_law_1398 rfl (lv_at hl 3 rfl) ?_
  refine lv_iload_n hx hb dL_law_1399 rfl (lv_at hl 0 rfl) ?_
  refine lv_iconst (v := 1) hx hb dL_law_1400 (by decide) ?_
  refine lv_iadd hx hb dL_law_1401 ?_
  refine va_sld (i := i + 1) hx hb hX hbl hbA hS (law_in hi hiL (d := 1) (by decide) (by decide) (by decide)) dL_law_1402 ?_
  refine lv_aload_n hx hb dL_law_1403 rfl (lv_at hl 3 rfl) ?_
  refine lv_iload_n hx hb dL_law_1404 rfl (lv_at hl 0 rfl) ?_
  refine lv_iconst (v := 2) hx hb dL_law_1405 (by decide) ?_
  refine lv_iadd hx hb dL_law_1406 ?_
  refine va_sld (i := i + 2) hx hb hX hbl hbA hS (law_in hi hiL (d := 2) (by decide) (by decide) (by decide)) dL_law_1407 ?_
  refine ti_calli (va_runV (As := [.int (xs (i + 1).toNatClampNeg), .int (xs (i + 2).toNatClampNeg)]) (rest := []) ⟨hx, hb, hml, hown, hts⟩ (t_X10_round l hT2 hy2 (iv_top _) (iv_top _) hν.1 hν.2.2.1 hU) (cwV 2 hts (good_V kw_1321 kw_1322 kw_1323 kw_5 kw_1324) rfl rfl rfl (by decide +kernel) ⟨by decide, by decide⟩) (ti_preV hK hT2 hy2 rfl rfl) rfl rfl hl.1 rfl (lv_room (Nat.le_of_ble_eq_true rfl)) dL_law_1408 ⟨by decide, by decide⟩) hS (fun q h => hA2 q (pW_pA h)) (fun r2 H locs hB hS _ hk => ?_)
  obtain ⟨hT2, ir2⟩ := hB
  have hT1 := TI.frameW hT1 (fun q h1 h2 => hdis q h2 h1) hk
  refine lv_pop hx hb dL_law_1411 rfl ?_
  refine lv_goto (tgt := 2019) hx hb dL_law_1412 (by decide) ?_
  exact nxt ν2 H locs hT1 hT2 hν hS
set_option maxHeartbeats 8000000 in
set_option maxRecDepth 100000 in
theorem law_c37 {p : Program} {e : Env} {s : State} {m : MethodId} {below : List Frame} {meth : Method} {c : Code} (l : Launch) {b L : Nat} {xs : Nat → Int32} (hL : L ≤ 3072) (hx : p.tables.exec = Jvm.exec) (hb : c.code = code) (hr : meth.sig.returnType = ret) (hml : c.maxLocals = 4) (hown : s.vm.findClass RL = some m.cls) (hts : ∀ w ∈ wq, w.before #[Value.ref b] s = true) (hX : va_X b L xs s s.heap) (hbl : b < s.heap.size) (hlocks : meth.locks = false) {D : va_G} {c0 : Nat → ClassId} {Y1 Y2 : Nat → Option Nat} {o1 o2 : Nat} {adK adV : Nat → Nat} (hK : va_K D vwCl (tysOf c0) s) (hSO : SO (fun q : Nat => s.heap.size ≤ q) adK adV s s.heap) (hdis : ∀ q, pA Y1 q → pA Y2 q → False) (hU : uq Y2) (hy1 : Y1 o1 = some 9) (hA1 : ∀ q, pA Y1 q → s.heap.size ≤ q) (hy2 : Y2 o2 = some 10) (hA2 : ∀ q, pA Y2 q → s.heap.size ≤ q) {ν2 : Nat → Nat} {i : Int32} {H : Heap} {locs : List Loc} {ls : Array Slot} (hi : iv i 0 3066) (hiL : i.toInt + 6 ≤ (L : Int)) (hT1 : TI D vwCl (tysOf c0) (RTg (fun _ => 0)) Y1 H) (hT2 : TI D vwCl (tysOf c0) (RTg ν2) Y2 H) (hν : nuOK ν2) (hS : va_S (fun q : Nat => s.heap.size ≤ q) s.heap H locs) (hl : lv_has ls 4 [(3, .int i), (2, .ref o2), (1, .ref o1), (0, .ref b)]) (nxt : ∀ (ν2 : Nat → Nat) (H : Heap) (locs : List Loc), TI D vwCl (tysOf c0) (RTg (fun _ => 0)) Y1 H → TI D vwCl (tysOf c0) (RTg ν2) Y2 H → nuOK ν2 → va_S (fun q : Nat => s.heap.size ≤ q) s.heap H locs → W p l e room_1 s m #[Value.ref b] below meth c H locs 188 7230 (lw_Z below #[Value.ref b] s) (F0 m 2019 ls [])) : W p l e room_1 s m #[Value.ref b] below meth c H locs 188 7230 (lw_Z below #[Value.ref b] s) (F0 m 1415 ls []) := by
  have hbA : ¬ (fun q : Nat => s.heap.size ≤ q) b := Nat.not_le.mpr hbl
  refine lv_aload_n hx hb dL_law_1415 rfl (lv_at hl 2 rfl) ?_
  refine lv_aload_n hx hb dL_law_1416 rfl (lv_at hl 3 rfl) ?_
  refine lv_iload_n hx hb dL_law_1417 rfl (lv_at hl 0 rfl) ?_
  refine lv_iconst (v := 1) hx hb dL_law_1418 (by decide) ?_
  refine lv_iadd hx hb dL_law_1419 ?_
  refine va_sld (i := i + 1) hx hb hX hbl hbA hS (law_in hi hiL (d := 1) (by decide) (by decide) (by decide)) dL_law_1420 ?_
  refine lv_aload_n hx hb dL_law_1421 rfl (lv_at hl 3 rfl) ?_
  refine lv_iload_n hx hb dL_law_1422 rfl (lv_at hl 0 rfl) ?_
  refine lv_iconst (v := 2) hx hb dL_law_1423 (by decide) ?_
  refine lv_iadd hx hb dL_law_1424 ?_
  refine va_sld (i := i + 2) hx hb hX hbl hbA hS (law_in hi hiL (d := 2) (by decide) (by decide) (by decide)) dL_law_1425 ?_
  refine ti_calli (va_runV (As := [.int (xs (i + 1).toNatClampNeg), .int (xs (i + 2).toNatClampNeg)]) (rest := []) ⟨hx, hb, hml, hown, hts⟩ (t_X9_hides l hT1 hy1 (iv_top _) (iv_top _)) (cwV 2 hts (good_V kw_1325 kw_1326 kw_1327 kw_2 kw_1328) rfl rfl rfl (by decide +kernel) ⟨by decide, by decide⟩) (ti_preV hK hT1 hy1 rfl rfl) rfl rfl hl.1 rfl (lv_room (Nat.le_of_ble_eq_true rfl)) dL_law_1426 ⟨by decide, by decide⟩) hS (fun q h => hA1 q (pW_pA h)) (fun r1 H locs hB hS _ hk => ?_)
  have hT1 := hB
  have hT2 := TI.frameW hT2 hdis hk
  refine lv_pop hx hb dL_law_1429 rfl ?_
  refine lv_aload_n hx hb dL_law_1430 rfl (lv_at hl 1 rfl) ?_
  refine lv_aload_n hx hb dL_law_1431 rfl (lv_at hl 3 rfl) ?_
  refine lv_iload_n hx hb dL_law_1432 rfl (lv_at hl 0 rfl) ?_
  refine lv_iconst (v := 1) hx hb dL_law_1433 (by decide) ?_
  refine lv_iadd hx hb dL_law_1434 ?_
  refine va_sld (i := i + 1) hx hb hX hbl hbA hS (law_in hi hiL (d := 1) (by decide) (by decide) (by decide)) dL_law_1435 ?_
  refine lv_aload_n hx hb dL_law_1436 rfl (lv_at hl 3 rfl) ?_
  refine lv_iload_n hx hb dL_law_1437 rfl (lv_at hl 0 rfl) ?_
  refine lv_iconst (v := 2) hx hb dL_law_1438 (by decide) ?_
  refine lv_iadd hx hb dL_law_1439 ?_
  refine va_sld (i := i + 2) hx hb hX hbl hbA hS (law_in hi hiL (d := 2) (by decide) (by decide) (by decide)) dL_law_1440 ?_
  refine ti_calli (va_runV (As := [.int (xs (i + 1).toNatClampNeg), .int (xs (i + 2).toNatClampNeg)]) (rest := []) ⟨hx, hb, hml, hown, hts⟩ (t_X10_hides l hT2 hy2 (iv_top _) (iv_top _) hν.1 hν.2.2.1 hU) (cwV 2 hts (good_V kw_1341 kw_1342 kw_1343 kw_5 kw_1344) rfl rfl rfl (by decide +kernel) ⟨by decide, by decide⟩) (ti_preV hK hT2 hy2 rfl rfl) rfl rfl hl.1 rfl (lv_room (Nat.le_of_ble_eq_true rfl)) dL_law_1441 ⟨by decide, by decide⟩) hS (fun q h => hA2 q (pW_pA h)) (fun r2 H locs hB hS _ hk => ?_)
  have hT2 := hB
  have hT1 := TI.frameW hT1 (fun q h1 h2 => hdis q h2 h1) hk
  refine lv_pop hx hb dL_law_1444 rfl ?_
  refine lv_goto (tgt := 2019) hx hb dL_law_1445 (by decide) ?_
  exact nxt ν2 H locs hT1 hT2 hν hS
set_option maxHeartbeats 8000000 in
set_option maxRecDepth 100000 in
theorem law_c38 {p : Program} {e : Env} {s : State} {m : MethodId} {below : List Frame} {meth : Method} {c : Code} (l : Launch) {b L : Nat} {xs : Nat → Int32} (hL : L ≤ 3072) (hx : p.tables.exec = Jvm.exec) (hb : c.code = code) (hr : meth.sig.returnType = ret) (hml : c.maxLocals = 4) (hown : s.vm.findClass RL = some m.cls) (hts : ∀ w ∈ wq, w.before #[Value.ref b] s = true) (hX : va_X b L xs s s.heap) (hbl : b < s.heap.size) (hlocks : meth.locks = false) {D : va_G} {c0 : Nat → ClassId} {Y1 Y2 : Nat → Option Nat} {o1 o2 : Nat} {adK adV : Nat → Nat} (hK : va_K D vwCl (tysOf c0) s) (hSO : SO (fun q : Nat => s.heap.size ≤ q) adK adV s s.heap) (hdis : ∀ q, pA Y1 q → pA Y2 q → False) (hU : uq Y2) (hy1 : Y1 o1 = some 9) (hA1 : ∀ q, pA Y1 q → s.heap.size ≤ q) (hy2 : Y2 o2 = some 10) (hA2 : ∀ q, pA Y2 q → s.heap.size ≤ q) {ν2 : Nat → Nat} {i : Int32} {H : Heap} {locs : List Loc} {ls : Array Slot} (hi : iv i 0 3066) (hiL : i.toInt + 6 ≤ (L : Int)) (hT1 : TI D vwCl (tysOf c0) (RTg (fun _ => 0)) Y1 H) (hT2 : TI D vwCl (tysOf c0) (RTg ν2) Y2 H) (hν : nuOK ν2) (hS : va_S (fun q : Nat => s.heap.size ≤ q) s.heap H locs) (hl : lv_has ls 4 [(3, .int i), (2, .ref o2), (1, .ref o1), (0, .ref b)]) (nxt : ∀ (ν2 : Nat → Nat) (H : Heap) (locs : List Loc), TI D vwCl (tysOf c0) (RTg (fun _ => 0)) Y1 H → TI D vwCl (tysOf c0) (RTg ν2) Y2 H → nuOK ν2 → va_S (fun q : Nat => s.heap.size ≤ q) s.heap H locs → W p l e room_1 s m #[Value.ref b] below meth c H locs 188 7230 (lw_Z below #[Value.ref b] s) (F0 m 2019 ls [])) : W p l e room_1 s m #[Value.ref b] below meth c H locs 188 7230 (lw_Z below #[Value.ref b] s) (F0 m 1448 ls []) := by
  have hbA : ¬ (fun q : Nat => s.heap.size ≤ q) b := Nat.not_le.mpr hbl
  refine lv_aload_n hx hb dL_law_1448 rfl (lv_at hl 2 rfl) ?_
  refine lv_aload_n hx hb dL_law_1449 rfl (lv_at hl 3 rfl) ?_
  refine lv_iload_n hx hb dL_law_1450 rfl (lv_at hl 0 rfl) ?_
  refine lv_iconst (v := 1) hx hb dL_law_1451 (by decide) ?_
  refine lv_iadd hx hb dL_law_1452 ?_
  refine va_sld (i := i + 1) hx hb hX hbl hbA hS (law_in hi hiL (d := 1) (by decide) (by decide) (by decide)) dL_law_1453 ?_
  refine lv_aload_n hx hb dL_law_1454 rfl (lv_at hl 3 rfl) ?_
  refine lv_iload_n hx hb dL_law_1455 rfl (lv_at hl 0 rfl) ?_
  refine lv_iconst (v := 2) hx hb dL_law_1456 (by decide) ?_
  refine lv_iadd hx hb dL_law_1457 ?_
  refine va_sld (i := i + 2) hx hb hX hbl hbA hS (law_in hi hiL (d := 2) (by decide) (by decide) (by decide)) dL_law_1458 ?_
  refine ti_calli (va_runV (As := [.int (xs (i + 1).toNatClampNeg), .int (xs (i + 2).toNatClampNeg)]) (rest := []) ⟨hx, hb, hml, hown, hts⟩ (t_X9_edge l hT1 hy1 (iv_top _) (iv_top _)) (cwV 2 hts (good_V kw_1357 kw_1358 kw_1359 kw_2 kw_1360) rfl rfl rfl (by decide +kernel) ⟨by decide, by decide⟩) (ti_preV hK hT1 hy1 rfl rfl) rfl rfl hl.1 rfl (lv_room (Nat.le_of_ble_eq_true rfl)) dL_law_1459 ⟨by decide, by decide⟩) hS (fun q h => hA1 q (pW_pA h)) (fun r1 H locs hB hS _ hk => ?_)
  obtain ⟨hT1, ir1⟩ := hB
  have hT2 := TI.frameW hT2 hdis hk
  refine lv_pop hx hb dL_law_1462 rfl ?_
  refine lv_aload_n hx hb dL_law_1463 rfl (lv_at hl 1 rfl) ?_
  refine lv_aload_n hx hb dL_law_1464 rfl (lv_at hl 3 rfl) ?_
  refine lv_iload_n hx hb dL_law_1465 rfl (lv_at hl 0 rfl) ?_
  refine lv_iconst (v := 1) hx hb dL_law_1466 (by decide) ?_
  refine lv_iadd hx hb dL_law_1467 ?_
  refine va_sld (i := i + 1) hx hb hX hbl hbA hS (law_in hi hiL (d := 1) (by decide) (by decide) (by decide)) dL_law_1468 ?_
  refine lv_aload_n hx hb dL_law_1469 rfl (lv_at hl 3 rfl) ?_
  refine lv_iload_n hx hb dL_law_1470 rfl (lv_at hl 0 rfl) ?_
  refine lv_iconst (v := 2) hx hb dL_law_1471 (by decide) ?_
  refine lv_iadd hx hb dL_law_1472 ?_
  refine va_sld (i := i + 2) hx hb hX hbl hbA hS (law_in hi hiL (d := 2) (by decide) (by decide) (by decide)) dL_law_1473 ?_
  refine ti_calli (va_runV (As := [.int (xs (i + 1).toNatClampNeg), .int (xs (i + 2).toNatClampNeg)]) (rest := []) ⟨hx, hb, hml, hown, hts⟩ (t_X10_edge l hT2 hy2 (iv_top _) (iv_top _) hν.1 hν.2.2.1 hU) (cwV 2 hts (good_V kw_1361 kw_1362 kw_1363 kw_5 kw_1364) rfl rfl rfl (by decide +kernel) ⟨by decide, by decide⟩) (ti_preV hK hT2 hy2 rfl rfl) rfl rfl hl.1 rfl (lv_room (Nat.le_of_ble_eq_true rfl)) dL_law_1474 ⟨by decide, by decide⟩) hS (fun q h => hA2 q (pW_pA h)) (fun r2 H locs hB hS _ hk => ?_)
  obtain ⟨hT2, ir2⟩ := hB
  have hT1 := TI.frameW hT1 (fun q h1 h2 => hdis q h2 h1) hk
  refine lv_pop hx hb dL_law_1477 rfl ?_
  refine lv_goto (tgt := 2019) hx hb dL_law_1478 (by decide) ?_
  exact nxt ν2 H locs hT1 hT2 hν hS
set_option maxHeartbeats 8000000 in
set_option maxRecDepth 100000 in
theorem law_c39 {p : Program} {e : Env} {s : State} {m : MethodId} {below : List Frame} {meth : Method} {c : Code} (l : Launch) {b L : Nat} {xs : Nat → Int32} (hL : L ≤ 3072) (hx : p.tables.exec = Jvm.exec) (hb : c.code = code) (hr : meth.sig.returnType = ret) (hml : c.maxLocals = 4) (hown : s.vm.findClass RL = some m.cls) (hts : ∀ w ∈ wq, w.before #[Value.ref b] s = true) (hX : va_X b L xs s s.heap) (hbl : b < s.heap.size) (hlocks : meth.locks = false) {D : va_G} {c0 : Nat → ClassId} {Y1 Y2 : Nat → Option Nat} {o1 o2 : Nat} {adK adV : Nat → Nat} (hK : va_K D vwCl (tysOf c0) s) (hSO : SO (fun q : Nat => s.heap.size ≤ q) adK adV s s.heap) (hdis : ∀ q, pA Y1 q → pA Y2 q → False) (hU : uq Y2) (hy1 : Y1 o1 = some 9) (hA1 : ∀ q, pA Y1 q → s.heap.size ≤ q) (hy2 : Y2 o2 = some 10) (hA2 : ∀ q, pA Y2 q → s.heap.size ≤ q) {ν2 : Nat → Nat} {i : Int32} {H : Heap} {locs : List Loc} {ls : Array Slot} (hi : iv i 0 3066) (hiL : i.toInt + 6 ≤ (L : Int)) (hT1 : TI D vwCl (tysOf c0) (RTg (fun _ => 0)) Y1 H) (hT2 : TI D vwCl (tysOf c0) (RTg ν2) Y2 H) (hν : nuOK ν2) (hS : va_S (fun q : Nat => s.heap.size ≤ q) s.heap H locs) (hl : lv_has ls 4 [(3, .int i), (2, .ref o2), (1, .ref o1), (0, .ref b)]) (nxt : ∀ (ν2 : Nat → Nat) (H : Heap) (locs : List Loc), TI D vwCl (tysOf c0) (RTg (fun _ => 0)) Y1 H → TI D vwCl (tysOf c0) (RTg ν2) Y2 H → nuOK ν2 → va_S (fun q : Nat => s.heap.size ≤ q) s.heap H locs → W p l e room_1 s m #[Value.ref b] below meth c H locs 188 7230 (lw_Z below #[Value.ref b] s) (F0 m 2019 ls [])) : W p l e room_1 s m #[Value.ref b] below meth c H locs 188 7230 (lw_Z below #[Value.ref b] s) (F0 m 1481 ls []) := by
  have hbA : ¬ (fun q : Nat => s.heap.size ≤ q) b := Nat.not_le.mpr hbl
  refine lv_aload_n hx hb dL_law_1481 rfl (lv_at hl 2 rfl) ?_
  refine lv_aload_n hx hb dL_law_1482 rfl (lv_at hl 3 rfl) ?_
  refine lv_iload_n hx hb dL_law_1483 rfl (lv_at hl 0 rfl) ?_
  refine lv_iconst (v := 1) hx hb dL_law_1484 (by decide) ?_
  refine lv_iadd hx hb dL_law_1485 ?_
  refine va_sld (i := i + 1) hx hb hX hbl hbA hS (law_in hi hiL (d := 1) (by decide) (by decide) (by decide)) dL_law_1486 ?_
  refine lv_aload_n hx hb dL_law_1487 rfl (lv_at hl 3 rfl) ?_
  refine lv_iload_n hx hb dL_law_1488 rfl (lv_at hl 0 rfl) ?_
  refine lv_iconst (v := 2) hx hb dL_law_1489 (by decide) ?_
  refine lv_iadd hx hb dL_law_1490 ?_
  refine va_sld (i := i + 2) hx hb hX hbl hbA hS (law_in hi hiL (d := 2) (by decide) (by decide) (by decide)) dL_law_1491 ?_
  refine ti_calli (va_runV (As := [.int (xs (i + 1).toNatClampNeg), .int (xs (i + 2).toNatClampNeg)]) (rest := []) ⟨hx, hb, hml, hown, hts⟩ (t_X9_pays l hT1 hy1 (iv_top _) (iv_top _)) (cwV 2 hts (good_V kw_1365 kw_1366 kw_1367 kw_2 kw_1368) rfl rfl rfl (by decide +kernel) ⟨by decide, by decide⟩) (ti_preV hK hT1 hy1 rfl rfl) rfl rfl hl.1 rfl (lv_room (Nat.le_of_ble_eq_true rfl)) dL_law_1492 ⟨by decide, by decide⟩) hS (fun q h => hA1 q (pW_pA h)) (fun r1 H locs hB hS _ hk => ?_)
  have hT1 := hB
  have hT2 := TI.frameW hT2 hdis hk
  refine lv_pop hx hb dL_law_1495 rfl ?_
  refine lv_aload_n hx hb dL_law_1496 rfl (lv_at hl 1 rfl) ?_
  refine lv_aload_n hx hb dL_law_1497 rfl (lv_at hl 3 rfl) ?_
  refine lv_iload_n hx hb dL_law_1498 rfl (lv_at hl 0 rfl) ?_
  refine lv_iconst (v := 1) hx hb dL_law_1499 (by decide) ?_
  refine lv_iadd hx hb dL_law_1500 ?_
  refine va_sld (i := i + 1) hx hb hX hbl hbA hS (law_in hi hiL (d := 1) (by decide) (by decide) (by decide)) dL_law_1501 ?_
  refine lv_aload_n hx hb dL_law_1502 rfl (lv_at hl 3 rfl) ?_
  refine lv_iload_n hx hb dL_law_1503 rfl (lv_at hl 0 rfl) ?_
  refine lv_iconst (v := 2) hx hb dL_law_1504 (by decide) ?_
  refine lv_iadd hx hb dL_law_1505 ?_
  refine va_sld (i := i + 2) hx hb hX hbl hbA hS (law_in hi hiL (d := 2) (by decide) (by decide) (by decide)) dL_law_1506 ?_
  refine ti_calli (va_runV (As := [.int (xs (i + 1).toNatClampNeg), .int (xs (i + 2).toNatClampNeg)]) (rest := []) ⟨hx, hb, hml, hown, hts⟩ (t_X10_pays l hT2 hy2 (iv_top _) (iv_top _) hν.1 hν.2.2.1 hU) (cwV 2 hts (good_V kw_1374 kw_1375 kw_1376 kw_5 kw_1377) rfl rfl rfl (by decide +kernel) ⟨by decide, by decide⟩) (ti_preV hK hT2 hy2 rfl rfl) rfl rfl hl.1 rfl (lv_room (Nat.le_of_ble_eq_true rfl)) dL_law_1507 ⟨by decide, by decide⟩) hS (fun q h => hA2 q (pW_pA h)) (fun r2 H locs hB hS _ hk => ?_)
  have hT2 := hB
  have hT1 := TI.frameW hT1 (fun q h1 h2 => hdis q h2 h1) hk
  refine lv_pop hx hb dL_law_1510 rfl ?_
  refine lv_goto (tgt := 2019) hx hb dL_law_1511 (by decide) ?_
  exact nxt ν2 H locs hT1 hT2 hν hS
set_option maxHeartbeats 8000000 in
set_option maxRecDepth 100000 in
theorem law_c40 {p : Program} {e : Env} {s : State} {m : MethodId} {below : List Frame} {meth : Method} {c : Code} (l : Launch) {b L : Nat} {xs : Nat → Int32} (hL : L ≤ 3072) (hx : p.tables.exec = Jvm.exec) (hb : c.code = code) (hr : meth.sig.returnType = ret) (hml : c.maxLocals = 4) (hown : s.vm.findClass RL = some m.cls) (hts : ∀ w ∈ wq, w.before #[Value.ref b] s = true) (hX : va_X b L xs s s.heap) (hbl : b < s.heap.size) (hlocks : meth.locks = false) {D : va_G} {c0 : Nat → ClassId} {Y1 Y2 : Nat → Option Nat} {o1 o2 : Nat} {adK adV : Nat → Nat} (hK : va_K D vwCl (tysOf c0) s) (hSO : SO (fun q : Nat => s.heap.size ≤ q) adK adV s s.heap) (hdis : ∀ q, pA Y1 q → pA Y2 q → False) (hU : uq Y2) (hy1 : Y1 o1 = some 9) (hA1 : ∀ q, pA Y1 q → s.heap.size ≤ q) (hy2 : Y2 o2 = some 10) (hA2 : ∀ q, pA Y2 q → s.heap.size ≤ q) {ν2 : Nat → Nat} {i : Int32} {H : Heap} {locs : List Loc} {ls : Array Slot} (hi : iv i 0 3066) (hiL : i.toInt + 6 ≤ (L : Int)) (hT1 : TI D vwCl (tysOf c0) (RTg (fun _ => 0)) Y1 H) (hT2 : TI D vwCl (tysOf c0) (RTg ν2) Y2 H) (hν : nuOK ν2) (hS : va_S (fun q : Nat => s.heap.size ≤ q) s.heap H locs) (hl : lv_has ls 4 [(3, .int i), (2, .ref o2), (1, .ref o1), (0, .ref b)]) (nxt : ∀ (ν2 : Nat → Nat) (H : Heap) (locs : List Loc), TI D vwCl (tysOf c0) (RTg (fun _ => 0)) Y1 H → TI D vwCl (tysOf c0) (RTg ν2) Y2 H → nuOK ν2 → va_S (fun q : Nat => s.heap.size ≤ q) s.heap H locs → W p l e room_1 s m #[Value.ref b] below meth c H locs 188 7230 (lw_Z below #[Value.ref b] s) (F0 m 2019 ls [])) : W p l e room_1 s m #[Value.ref b] below meth c H locs 188 7230 (lw_Z below #[Value.ref b] s) (F0 m 1514 ls []) := by
  have hbA : ¬ (fun q : Nat => s.heap.size ≤ q) b := Nat.not_le.mpr hbl
  refine lv_aload_n hx hb dL_law_1514 rfl (lv_at hl 2 rfl) ?_
  refine lv_aload_n hx hb dL_law_1515 rfl (lv_at hl 3 rfl) ?_
  refine lv_iload_n hx hb dL_law_1516 rfl (lv_at hl 0 rfl) ?_
  refine lv_iconst (v := 1) hx hb dL_law_1517 (by decide) ?_
  refine lv_iadd hx hb dL_law_1518 ?_
  refine va_sld (i := i + 1) hx hb hX hbl hbA hS (law_in hi hiL (d := 1) (by decide) (by decide) (by decide)) dL_law_1519 ?_
  refine lv_aload_n hx hb dL_law_1520 rfl (lv_at hl 3 rfl) ?_
  refine lv_iload_n hx hb dL_law_1521 rfl (lv_at hl 0 rfl) ?_
  refine lv_iconst (v := 2) hx hb dL_law_1522 (by decide) ?_
  refine lv_iadd hx hb dL_law_1523 ?_
  refine va_sld (i := i + 2) hx hb hX hbl hbA hS (law_in hi hiL (d := 2) (by decide) (by decide) (by decide)) dL_law_1524 ?_
  refine ti_calli (va_runV (As := [.int (xs (i + 1).toNatClampNeg), .int (xs (i + 2).toNatClampNeg)]) (rest := []) ⟨hx, hb, hml, hown, hts⟩ (t_X9_quiet l hT1 hy1 (iv_top _) (iv_top _)) (cwV 2 hts (good_V kw_1378 kw_1379 kw_1380 kw_2 kw_1381) rfl rfl rfl (by decide +kernel) ⟨by decide, by decide⟩) (ti_preV hK hT1 hy1 rfl rfl) rfl rfl hl.1 rfl (lv_room (Nat.le_of_ble_eq_true rfl)) dL_law_1525 ⟨by decide, by decide⟩) hS (fun q h => hA1 q (pW_pA h)) (fun r1 H locs hB hS _ hk => ?_)
  have hT1 := hB
  have hT2 := TI.frameW hT2 hdis hk
  refine lv_pop hx hb dL_law_1528 rfl ?_
  refine lv_aload_n hx hb dL_law_1529 rfl (lv_at hl 1 rfl) ?_
  refine lv_aload_n hx hb dL_law_1530 rfl (lv_at hl 3 rfl) ?_
  refine lv_iload_n hx hb dL_law_1531 rfl (lv_at hl 0 rfl) ?_
  refine lv_iconst (v := 1) hx hb dL_law_1532 (by decide) ?_
  refine lv_iadd hx hb dL_law_1533 ?_
  refine va_sld (i := i + 1) hx hb hX hbl hbA hS (law_in hi hiL (d := 1) (by decide) (by decide) (by decide)) dL_law_1534 ?_
  refine lv_aload_n hx hb dL_law_1535 rfl (lv_at hl 3 rfl) ?_
  refine lv_iload_n hx hb dL_law_1536 rfl (lv_at hl 0 rfl) ?_
  refine lv_iconst (v := 2) hx hb dL_law_1537 (by decide) ?_
  refine lv_iadd hx hb dL_law_1538 ?_
  refine va_sld (i := i + 2) hx hb hX hbl hbA hS (law_in hi hiL (d := 2) (by decide) (by decide) (by decide)) dL_law_1539 ?_
  refine ti_calli (va_runV (As := [.int (xs (i + 1).toNatClampNeg), .int (xs (i + 2).toNatClampNeg)]) (rest := []) ⟨hx, hb, hml, hown, hts⟩ (t_X10_quiet l hT2 hy2 (iv_top _) (iv_top _) hν.1 hν.2.2.1 hU) (cwV 2 hts (good_V kw_1382 kw_1383 kw_1384 kw_5 kw_1385) rfl rfl rfl (by decide +kernel) ⟨by decide, by decide⟩) (ti_preV hK hT2 hy2 rfl rfl) rfl rfl hl.1 rfl (lv_room (Nat.le_of_ble_eq_true rfl)) dL_law_1540 ⟨by decide, by decide⟩) hS (fun q h => hA2 q (pW_pA h)) (fun r2 H locs hB hS _ hk => ?_)
  have hT2 := hB
  have hT1 := TI.frameW hT1 (fun q h1 h2 => hdis q h2 h1) hk
  refine lv_pop hx hb dL_law_1543 rfl ?_
  refine lv_goto (tgt := 2019) hx hb dL_law_1544 (by decide) ?_
  exact nxt ν2 H locs hT1 hT2 hν hS
set_option maxHeartbeats 8000000 in
set_option maxRecDepth 100000 in
theorem law_c41 {p : Program} {e : Env} {s : State} {m : MethodId} {below : List Frame} {meth : Method} {c : Code} (l : Launch) {b L : Nat} {xs : Nat → Int32} (hL : L ≤ 3072) (hx : p.tables.exec = Jvm.exec) (hb : c.code = code) (hr : meth.sig.returnType = ret) (hml : c.maxLocals = 4) (hown : s.vm.findClass RL = some m.cls) (hts : ∀ w ∈ wq, w.before #[Value.ref b] s = true) (hX : va_X b L xs s s.heap) (hbl : b < s.heap.size) (hlocks : meth.locks = false) {D : va_G} {c0 : Nat → ClassId} {Y1 Y2 : Nat → Option Nat} {o1 o2 : Nat} {adK adV : Nat → Nat} (hK : va_K D vwCl (tysOf c0) s) (hSO : SO (fun q : Nat => s.heap.size ≤ q) adK adV s s.heap) (hdis : ∀ q, pA Y1 q → pA Y2 q → False) (hU : uq Y2) (hy1 : Y1 o1 = some 9) (hA1 : ∀ q, pA Y1 q → s.heap.size ≤ q) (hy2 : Y2 o2 = some 10) (hA2 : ∀ q, pA Y2 q → s.heap.size ≤ q) {ν2 : Nat → Nat} {i : Int32} {H : Heap} {locs : List Loc} {ls : Array Slot} (hi : iv i 0 3066) (hiL : i.toInt + 6 ≤ (L : Int)) (hT1 : TI D vwCl (tysOf c0) (RTg (fun _ => 0)) Y1 H) (hT2 : TI D vwCl (tysOf c0) (RTg ν2) Y2 H) (hν : nuOK ν2) (hS : va_S (fun q : Nat => s.heap.size ≤ q) s.heap H locs) (hl : lv_has ls 4 [(3, .int i), (2, .ref o2), (1, .ref o1), (0, .ref b)]) (nxt : ∀ (ν2 : Nat → Nat) (H : Heap) (locs : List Loc), TI D vwCl (tysOf c0) (RTg (fun _ => 0)) Y1 H → TI D vwCl (tysOf c0) (RTg ν2) Y2 H → nuOK ν2 → va_S (fun q : Nat => s.heap.size ≤ q) s.heap H locs → W p l e room_1 s m #[Value.ref b] below meth c H locs 188 7230 (lw_Z below #[Value.ref b] s) (F0 m 2019 ls [])) : W p l e room_1 s m #[Value.ref b] below meth c H locs 188 7230 (lw_Z below #[Value.ref b] s) (F0 m 1547 ls []) := by
  have hbA : ¬ (fun q : Nat => s.heap.size ≤ q) b := Nat.not_le.mpr hbl
  refine lv_aload_n hx hb dL_law_1547 rfl (lv_at hl 2 rfl) ?_
  refine lv_aload_n hx hb dL_law_1548 rfl (lv_at hl 3 rfl) ?_
  refine lv_iload_n hx hb dL_law_1549 rfl (lv_at hl 0 rfl) ?_
  refine lv_iconst (v := 1) hx hb dL_law_1550 (by decide) ?_
  refine lv_iadd hx hb dL_law_1551 ?_
  refine va_sld (i := i + 1) hx hb hX hbl hbA hS (law_in hi hiL (d := 1) (by decide) (by decide) (by decide)) dL_law_1552 ?_
  refine ti_calli (va_runV (As := [.int (xs (i + 1).toNatClampNeg)]) (rest := []) ⟨hx, hb, hml, hown, hts⟩ (t_X9_again l hT1 hy1 (iv_top _)) (cwV 1 hts (good_V kw_1386 kw_1387 kw_1388 kw_2 kw_1389) rfl rfl rfl (by decide +kernel) ⟨by decide, by decide⟩) (ti_preV hK hT1 hy1 rfl rfl) rfl rfl hl.1 rfl (lv_room (Nat.le_of_ble_eq_true rfl)) dL_law_1553 ⟨by decide, by decide⟩) hS (fun q h => hA1 q (pW_pA h)) (fun r1 H locs hB hS _ hk => ?_)
  obtain ⟨hT1, ir1⟩ := hB
  have hT2 := TI.frameW hT2 hdis hk
  refine lv_pop hx hb dL_law_1556 rfl ?_
  refine lv_aload_n hx hb dL_law_1557 rfl (lv_at hl 1 rfl) ?_
  refine lv_aload_n hx hb dL_law_1558 rfl (lv_at hl 3 rfl) ?_
  refine lv_iload_n hx hb dL_law_1559 rfl (lv_at hl 0 rfl) ?_
  refine lv_iconst (v := 1) hx hb dL_law_1560 (by decide) ?_
  refine lv_iadd hx hb dL_law_1561 ?_
  refine va_sld (i := i + 1) hx hb hX hbl hbA hS (law_in hi hiL (d := 1) (by decide) (by decide) (by decide)) dL_law_1562 ?_
  refine ti_calli (va_runV (As := [.int (xs (i + 1).toNatClampNeg)]) (rest := []) ⟨hx, hb, hml, hown, hts⟩ (t_X10_again l hT2 hy2 (iv_top _) hν.1 hν.2.2.1 hU) (cwV 1 hts (good_V kw_1394 kw_1395 kw_1396 kw_5 kw_1397) rfl rfl rfl (by decide +kernel) ⟨by decide, by decide⟩) (ti_preV hK hT2 hy2 rfl rfl) rfl rfl hl.1 rfl (lv_room (Nat.le_of_ble_eq_true rfl)) dL_law_1563 ⟨by decide, by decide⟩) hS (fun q h => hA2 q (pW_pA h)) (fun r2 H locs hB hS _ hk => ?_)
  obtain ⟨hT2, ir2⟩ := hB
  have hT1 := TI.frameW hT1 (fun q h1 h2 => hdis q h2 h1) hk
  refine lv_pop hx hb dL_law_1566 rfl ?_
  refine lv_goto (tgt := 2019) hx hb dL_law_1567 (by decide) ?_
  exact nxt ν2 H locs hT1 hT2 hν hS
set_option maxHeartbeats 8000000 in
set_option maxRecDepth 100000 in
theorem law_c42 {p : Program} {e : Env} {s : State} {m : MethodId} {below : List Frame} {meth : Method} {c : Code} (l : Launch) {b L : Nat} {xs : Nat → Int32} (hL : L ≤ 3072) (hx : p.tables.exec = Jvm.exec) (hb : c.code = code) (hr : meth.sig.returnType = ret) (hml : c.maxLocals = 4) (hown : s.vm.findClass RL = some m.cls) (hts : ∀ w ∈ wq, w.before #[Value.ref b] s = true) (hX : va_X b L xs s s.heap) (hbl : b < s.heap.size) (hlocks : meth.locks = false) {D : va_G} {c0 : Nat → ClassId} {Y1 Y2 : Nat → Option Nat} {o1 o2 : Nat} {adK adV : Nat → Nat} (hK : va_K D vwCl (tysOf c0) s) (hSO : SO (fun q : Nat => s.heap.size ≤ q) adK adV s s.heap) (hdis : ∀ q, pA Y1 q → pA Y2 q → False) (hU : uq Y2) (hy1 : Y1 o1 = some 9) (hA1 : ∀ q, pA Y1 q → s.heap.size ≤ q) (hy2 : Y2 o2 = some 10) (hA2 : ∀ q, pA Y2 q → s.heap.size ≤ q) {ν2 : Nat → Nat} {i : Int32} {H : Heap} {locs : List Loc} {ls : Array Slot} (hi : iv i 0 3066) (hiL : i.toInt + 6 ≤ (L : Int)) (hT1 : TI D vwCl (tysOf c0) (RTg (fun _ => 0)) Y1 H) (hT2 : TI D vwCl (tysOf c0) (RTg ν2) Y2 H) (hν : nuOK ν2) (hS : va_S (fun q : Nat => s.heap.size ≤ q) s.heap H locs) (hl : lv_has ls 4 [(3, .int i), (2, .ref o2), (1, .ref o1), (0, .ref b)]) (nxt : ∀ (ν2 : Nat → Nat) (H : Heap) (locs : List Loc), TI D vwCl (tysOf c0) (RTg (fun _ => 0)) Y1 H → TI D vwCl (tysOf c0) (RTg ν2) Y2 H → nuOK ν2 → va_S (fun q : Nat => s.heap.size ≤ q) s.heap H locs → W p l e room_1 s m #[Value.ref b] below meth c H locs 188 7230 (lw_Z below #[Value.ref b] s) (F0 m 2019 ls [])) : W p l e room_1 s m #[Value.ref b] below meth c H locs 188 7230 (lw_Z below #[Value.ref b] s) (F0 m 1570 ls []) := by
  have hbA : ¬ (fun q : Nat => s.heap.size ≤ q) b := Nat.not_le.mpr hbl
  refine lv_aload_n hx hb dL_law_1570 rfl (lv_at hl 2 rfl) ?_
  refine lv_aload_n hx hb dL_law_1571 rfl (lv_at hl 3 rfl) ?_
  refine lv_iload_n hx hb dL_law_1572 rfl (lv_at hl 0 rfl) ?_
  refine lv_iconst (v := 1) hx hb dL_law_1573 (by decide) ?_
  refine lv_iadd hx hb dL_law_1574 ?_
  refine va_sld (i := i + 1) hx hb hX hbl hbA hS (law_in hi hiL (d := 1) (by decide) (by decide) (by decide)) dL_law_1575 ?_
  refine ti_calli (va_runV (As := [.int (xs (i + 1).toNatClampNeg)]) (rest := []) ⟨hx, hb, hml, hown, hts⟩ (t_X9_alike l hT1 hy1 (iv_top _)) (cwV 1 hts (good_V kw_1402 kw_1403 kw_1404 kw_2 kw_1405) rfl rfl rfl (by decide +kernel) ⟨by decide, by decide⟩) (ti_preV hK hT1 hy1 rfl rfl) rfl rfl hl.1 rfl (lv_room (Nat.le_of_ble_eq_true rfl)) dL_law_1576 ⟨by decide, by decide⟩) hS (fun q h => hA1 q (pW_pA h)) (fun r1 H locs hB hS _ hk => ?_)
  obtain ⟨hT1, ir1⟩ := hB
  have hT2 := TI.frameW hT2 hdis hk
  refine lv_pop hx hb dL_law_1579 rfl ?_
  refine lv_aload_n hx hb dL_law_1580 rfl (lv_at hl 1 rfl) ?_
  refine lv_aload_n hx hb dL_law_1581 rfl (lv_at hl 3 rfl) ?_
  refine lv_iload_n hx hb dL_law_1582 rfl (lv_at hl 0 rfl) ?_
  refine lv_iconst (v := 1) hx hb dL_law_1583 (by decide) ?_
  refine lv_iadd hx hb dL_law_1584 ?_
  refine va_sld (i := i + 1) hx hb hX hbl hbA hS (law_in hi hiL (d := 1) (by decide) (by decide) (by decide)) dL_law_1585 ?_
  refine ti_calli (va_runV (As := [.int (xs (i + 1).toNatClampNeg)]) (rest := []) ⟨hx, hb, hml, hown, hts⟩ (t_X10_alike l hT2 hy2 (iv_top _) hν.1 hν.2.2.1 hU) (cwV 1 hts (good_V kw_1406 kw_1407 kw_1408 kw_5 kw_1409) rfl rfl rfl (by decide +kernel) ⟨by decide, by decide⟩) (ti_preV hK hT2 hy2 rfl rfl) rfl rfl hl.1 rfl (lv_room (Nat.le_of_ble_eq_true rfl)) dL_law_1586 ⟨by decide, by decide⟩) hS (fun q h => hA2 q (pW_pA h)) (fun r2 H locs hB hS _ hk => ?_)
  obtain ⟨hT2, ir2⟩ := hB
  have hT1 := TI.frameW hT1 (fun q h1 h2 => hdis q h2 h1) hk
  refine lv_pop hx hb dL_law_1589 rfl ?_
  refine lv_goto (tgt := 2019) hx hb dL_law_1590 (by decide) ?_
  exact nxt ν2 H locs hT1 hT2 hν hS
set_option maxHeartbeats 8000000 in
set_option maxRecDepth 100000 in
theorem law_c43 {p : Program} {e : Env} {s : State} {m : MethodId} {below : List Frame} {meth : Method} {c : Code} (l : Launch) {b L : Nat} {xs : Nat → Int32} (hL : L ≤ 3072) (hx : p.tables.exec = Jvm.exec) (hb : c.code = code) (hr : meth.sig.returnType = ret) (hml : c.maxLocals = 4) (hown : s.vm.findClass RL = some m.cls) (hts : ∀ w ∈ wq, w.before #[Value.ref b] s = true) (hX : va_X b L xs s s.heap) (hbl : b < s.heap.size) (hlocks : meth.locks = false) {D : va_G} {c0 : Nat → ClassId} {Y1 Y2 : Nat → Option Nat} {o1 o2 : Nat} {adK adV : Nat → Nat} (hK : va_K D vwCl (tysOf c0) s) (hSO : SO (fun q : Nat => s.heap.size ≤ q) adK adV s s.heap) (hdis : ∀ q, pA Y1 q → pA Y2 q → False) (hU : uq Y2) (hy1 : Y1 o1 = some 9) (hA1 : ∀ q, pA Y1 q → s.heap.size ≤ q) (hy2 : Y2 o2 = some 10) (hA2 : ∀ q, pA Y2 q → s.heap.size ≤ q) {ν2 : Nat → Nat} {i : Int32} {H : Heap} {locs : List Loc} {ls : Array Slot} (hi : iv i 0 3066) (hiL : i.toInt + 6 ≤ (L : Int)) (hT1 : TI D vwCl (tysOf c0) (RTg (fun _ => 0)) Y1 H) (hT2 : TI D vwCl (tysOf c0) (RTg ν2) Y2 H) (hν : nuOK ν2) (hS : va_S (fun q : Nat => s.heap.size ≤ q) s.heap H locs) (hl : lv_has ls 4 [(3, .int i), (2, .ref o2), (1, .ref o1), (0, .ref b)]) (nxt : ∀ (ν2 : Nat → Nat) (H : Heap) (locs : List Loc), TI D vwCl (tysOf c0) (RTg (fun _ => 0)) Y1 H → TI D vwCl (tysOf c0) (RTg ν2) Y2 H → nuOK ν2 → va_S (fun q : Nat => s.heap.size ≤ q) s.heap H locs → W p l e room_1 s m #[Value.ref b] below meth c H locs 188 7230 (lw_Z below #[Value.ref b] s) (F0 m 2019 ls [])) : W p l e room_1 s m #[Value.ref b] below meth c H locs 188 7230 (lw_Z below #[Value.ref b] s) (F0 m 1593 ls []) := by
  have hbA : ¬ (fun q : Nat => s.heap.size ≤ q) b := Nat.not_le.mpr hbl
  refine lv_aload_n hx hb dL_law_1593 rfl (lv_at hl 2 rfl) ?_
  refine lv_aload_n hx hb dL_law_1594 rfl (lv_at hl 3 rfl) ?_
  refine lv_iload_n hx hb dL_law_1595 rfl (lv_at hl 0 rfl) ?_
  refine lv_iconst (v := 1) hx hb dL_law_1596 (by decide) ?_
  refine lv_iadd hx hb dL_law_1597 ?_
  refine va_sld (i := i + 1) hx hb hX hbl hbA hS (law_in hi hiL (d := 1) (by decide) (by decide) (by decide)) dL_law_1598 ?_
  refine lv_aload_n hx hb dL_law_1599 rfl (lv_at hl 3 rfl) ?_
  refine lv_iload_n hx hb dL_law_1600 rfl (lv_at hl 0 rfl) ?_
  refine lv_iconst (v := 2) hx hb dL_law_1601 (by decide) ?_
  refine lv_iadd hx hb dL_law_1602 ?_
  refine va_sld (i := i + 2) hx hb hX hbl hbA hS (law_in hi hiL (d := 2) (by decide) (by decide) (by decide)) dL_law_1603 ?_
  refine ti_calli (va_runV (As := [.int (xs (i + 1).toNatClampNeg), .int (xs (i + 2).toNatClampNeg)]) (rest := []) ⟨hx, hb, hml, hown, hts⟩ (t_X9_follows l hT1 hy1 (iv_top _) (iv_top _)) (cwV 2 hts (good_V kw_1414 kw_1415 kw_1416 kw_2 kw_1417) rfl rfl rfl (by decide +kernel) ⟨by decide, by decide⟩) (ti_preV hK hT1 hy1 rfl rfl) rfl rfl hl.1 rfl (lv_room (Nat.le_of_ble_eq_true rfl)) dL_law_1604 ⟨by decide, by decide⟩) hS (fun q h => hA1 q (pW_pA h)) (fun r1 H locs hB hS _ hk => ?_)
  have hT1 := hB
  have hT2 := TI.frameW hT2 hdis hk
  refine lv_pop hx hb dL_law_1607 rfl ?_
  refine lv_aload_n hx hb dL_law_1608 rfl (lv_at hl 1 rfl) ?_
  refine lv_aload_n hx hb dL_law_1609 rfl (lv_at hl 3 rfl) ?_
  refine lv_iload_n hx hb dL_law_1610 rfl (lv_at hl 0 rfl) ?_
  refine lv_iconst (v := 1) hx hb dL_law_1611 (by decide) ?_
  refine lv_iadd hx hb dL_law_1612 ?_
  refine va_sld (i := i + 1) hx hb hX hbl hbA hS (law_in hi hiL (d := 1) (by decide) (by decide) (by decide)) dL_law_1613 ?_
  refine lv_aload_n hx hb dL_law_1614 rfl (lv_at hl 3 rfl) ?_
  refine lv_iload_n hx hb dL_law_1615 rfl (lv_at hl 0 rfl) ?_
  refine lv_iconst (v := 2) hx hb dL_law_1616 (by decide) ?_
  refine lv_iadd hx hb dL_law_1617 ?_
  refine va_sld (i := i + 2) hx hb hX hbl hbA hS (law_in hi hiL (d := 2) (by decide) (by decide) (by decide)) dL_law_1618 ?_
  refine ti_calli (va_runV (As := [.int (xs (i + 1).toNatClampNeg), .int (xs (i + 2).toNatClampNeg)]) (rest := []) ⟨hx, hb, hml, hown, hts⟩ (t_X10_follows l hT2 hy2 (iv_top _) (iv_top _) hν.1 hν.2.2.1 hν.2.2.2 hU) (cwV 2 hts (good_V kw_1422 kw_1423 kw_1424 kw_5 kw_1425) rfl rfl rfl (by decide +kernel) ⟨by decide, by decide⟩) (ti_preV hK hT2 hy2 rfl rfl) rfl rfl hl.1 rfl (lv_room (Nat.le_of_ble_eq_true rfl)) dL_law_1619 ⟨by decide, by decide⟩) hS (fun q h => hA2 q (pW_pA h)) (fun r2 H locs hB hS _ hk => ?_)
  have hT2 := hB
  have hT1 := TI.frameW hT1 (fun q h1 h2 => hdis q h2 h1) hk
  refine lv_pop hx hb dL_law_1622 rfl ?_
  refine lv_goto (tgt := 2019) hx hb dL_law_1623 (by decide) ?_
  exact nxt ν2 H locs hT1 hT2 hν hS
