set_option maxHeartbeats 8000000 in
set_option maxRecDepth 100000 in
theorem law_fin {p : Program} {e : Env} {s : State} {m : MethodId} {below : List Frame} {meth : Method} {c : Code} (l : Launch) {b L : Nat} {xs : Nat → Int32} (hL : L ≤ 3072) (hx : p.tables.exec = Jvm.exec) (hb : c.code = code) (hr : meth.sig.returnType = ret) (hml : c.maxLocals = 4) (hown : s.vm.findClass RL = some m.cls) (hts : ∀ w ∈ wq, w.before #[Value.ref b] s = true) (hX : va_X b L xs s s.heap) (hbl : b < s.heap.size) (hlocks : meth.locks = false) {H : Heap} {locs : List Loc} {ls : Array Slot} (hS : va_S (fun q : Nat => s.heap.size ≤ q) s.heap H locs) : W p l e room_1 s m #[Value.ref b] below meth c H locs 188 7230 (lw_Z below #[Value.ref b] s) (F0 m 2025 ls []) := by
  refine lv_iconst (v := 1) hx hb dL_law_2025 (by decide) ?_
  refine va_forget (fun q hq => hS.2.2 q hq) ?_
  refine W.widen (k := 600000) (n := 7302250) (by decide) (by decide) ?_
  exact lw_ret hx hb hr hlocks dL_law_2026
set_option maxHeartbeats 8000000 in
set_option maxRecDepth 100000 in
theorem law_c0 {p : Program} {e : Env} {s : State} {m : MethodId} {below : List Frame} {meth : Method} {c : Code} (l : Launch) {b L : Nat} {xs : Nat → Int32} (hL : L ≤ 3072) (hx : p.tables.exec = Jvm.exec) (hb : c.code = code) (hr : meth.sig.returnType = ret) (hml : c.maxLocals = 4) (hown : s.vm.findClass RL = some m.cls) (hts : ∀ w ∈ wq, w.before #[Value.ref b] s = true) (hX : va_X b L xs s s.heap) (hbl : b < s.heap.size) (hlocks : meth.locks = false) {D : va_G} {c0 : Nat → ClassId} {Y1 Y2 : Nat → Option Nat} {o1 o2 : Nat} {adK adV : Nat → Nat} (hK : va_K D vwCl (tysOf c0) s) (hSO : SO (fun q : Nat => s.heap.size ≤ q) adK adV s s.heap) (hdis : ∀ q, pA Y1 q → pA Y2 q → False) (hU : uq Y2) (hy1 : Y1 o1 = some 9) (hA1 : ∀ q, pA Y1 q → s.heap.size ≤ q) (hy2 : Y2 o2 = some 10) (hA2 : ∀ q, pA Y2 q → s.heap.size ≤ q) {ν2 : Nat → Nat} {i : Int32} {H : Heap} {locs : List Loc} {ls : Array Slot} (hi : iv i 0 3066) (hiL : i.toInt + 6 ≤ (L : Int)) (hT1 : TI D vwCl (tysOf c0) (RTg (fun _ => 0)) Y1 H) (hT2 : TI D vwCl (tysOf c0) (RTg ν2) Y2 H) (hν : nuOK ν2) (hS : va_S (fun q : Nat => s.heap.size ≤ q) s.heap H locs) (hl : lv_has ls 4 [(3, .int i), (2, .ref o2), (1, .ref o1), (0, .ref b)]) (nxt : ∀ (ν2 : Nat → Nat) (H : Heap) (locs : List Loc), TI D vwCl (tysOf c0) (RTg (fun _ => 0)) Y1 H → TI D vwCl (tysOf c0) (RTg ν2) Y2 H → nuOK ν2 → va_S (fun q : Nat => s.heap.size ≤ q) s.heap H locs → W p l e room_1 s m #[Value.ref b] below meth c H locs 188 7230 (lw_Z below #[Value.ref b] s) (F0 m 2019 ls [])) : W p l e room_1 s m #[Value.ref b] below meth c H locs 188 7230 (lw_Z below #[Value.ref b] s) (F0 m 268 ls []) := by
  have hbA : ¬ (fun q : Nat => s.heap.size ≤ q) b := Nat.not_le.mpr hbl
  refine lv_aload_n hx hb dL_law_268 rfl (lv_at hl 2 rfl) ?_
  refine lv_aload_n hx hb dL_law_269 rfl (lv_at hl 3 rfl) ?_
  refine lv_iload_n hx hb dL_law_270 rfl (lv_at hl 0 rfl) ?_
  refine lv_iconst (v := 1) hx hb dL_law_271 (by decide) ?_
  refine lv_iadd hx hb dL_law_272 ?_
  refine va_sld (i := i + 1) hx hb hX hbl hbA hS (law_in hi hiL (d := 1) (by decide) (by decide) (by decide)) dL_law_273 ?_
  refine lv_aload_n hx hb dL_law_274 rfl (lv_at hl 3 rfl) ?_
  refine lv_iload_n hx hb dL_law_275 rfl (lv_at hl 0 rfl) ?_
  refine lv_iconst (v := 2) hx hb dL_law_276 (by decide) ?_
  refine lv_iadd hx hb dL_law_277 ?_
  refine va_sld (i := i + 2) hx hb hX hbl hbA hS (law_in hi hiL (d := 2) (by decide) (by decide) (by decide)) dL_law_278 ?_
  refine lv_aload_n hx hb dL_law_279 rfl (lv_at hl 3 rfl) ?_
  refine lv_iload_n hx hb dL_law_280 rfl (lv_at hl 0 rfl) ?_
  refine lv_iconst (v := 3) hx hb dL_law_281 (by decide) ?_
  refine lv_iadd hx hb dL_law_282 ?_
  refine va_sld (i := i + 3) hx hb hX hbl hbA hS (law_in hi hiL (d := 3) (by decide) (by decide) (by decide)) dL_law_283 ?_
  refine lv_aload_n hx hb dL_law_284 rfl (lv_at hl 3 rfl) ?_
  refine lv_iload_n hx hb dL_law_285 rfl (lv_at hl 0 rfl) ?_
  refine lv_iconst (v := 4) hx hb dL_law_286 (by decide) ?_
  refine lv_iadd hx hb dL_law_287 ?_
  refine va_sld (i := i + 4) hx hb hX hbl hbA hS (law_in hi hiL (d := 4) (by decide) (by decide) (by decide)) dL_law_288 ?_
  refine lv_aload_n hx hb dL_law_289 rfl (lv_at hl 3 rfl) ?_
  refine lv_iload_n hx hb dL_law_290 rfl (lv_at hl 0 rfl) ?_
  refine lv_iconst (v := 5) hx hb dL_law_291 (by decide) ?_
  refine lv_iadd hx hb dL_law_292 ?_
  refine va_sld (i := i + 5) hx hb hX hbl hbA hS (law_in hi hiL (d := 5) (by decide) (by decide) (by decide)) dL_law_293 ?_
  refine ti_calli (va_runV (As := [.int (xs (i + 1).toNatClampNeg), .int (xs (i + 2).toNatClampNeg), .int (xs (i + 3).toNatClampNeg), .int (xs (i + 4).toNatClampNeg), .int (xs (i + 5).toNatClampNeg)]) (rest := []) ⟨hx, hb, hml, hown, hts⟩ (t_X9_feed l hT1 hy1 (iv_top _) (iv_top _) (iv_top _) (iv_top _) (iv_top _)) (cwV 5 hts (good_V kw_158 kw_159 kw_160 kw_2 kw_161) rfl rfl rfl (by decide +kernel) ⟨by decide, by decide⟩) (ti_preV hK hT1 hy1 rfl rfl) rfl rfl hl.1 rfl (lv_room (Nat.le_of_ble_eq_true rfl)) dL_law_294 ⟨by decide, by decide⟩) hS (fun q h => hA1 q (pW_pA h)) (fun r1 H locs hB hS _ hk => ?_)
  obtain ⟨hT1, ir1⟩ := hB
  have hT2 := TI.frameW hT2 hdis hk
  refine lv_pop hx hb dL_law_297 rfl ?_
  refine lv_aload_n hx hb dL_law_298 rfl (lv_at hl 1 rfl) ?_
  refine lv_aload_n hx hb dL_law_299 rfl (lv_at hl 3 rfl) ?_
  refine lv_iload_n hx hb dL_law_300 rfl (lv_at hl 0 rfl) ?_
  refine lv_iconst (v := 1) hx hb dL_law_301 (by decide) ?_
  refine lv_iadd hx hb dL_law_302 ?_
  refine va_sld (i := i + 1) hx hb hX hbl hbA hS (law_in hi hiL (d := 1) (by decide) (by decide) (by decide)) dL_law_303 ?_
  refine lv_aload_n hx hb dL_law_304 rfl (lv_at hl 3 rfl) ?_
  refine lv_iload_n hx hb dL_law_305 rfl (lv_at hl 0 rfl) ?_
  refine lv_iconst (v := 2) hx hb dL_law_306 (by decide) ?_
  refine lv_iadd hx hb dL_law_307 ?_
  refine va_sld (i := i + 2) hx hb hX hbl hbA hS (law_in hi hiL (d := 2) (by decide) (by decide) (by decide)) dL_law_308 ?_
  refine lv_aload_n hx hb dL_law_309 rfl (lv_at hl 3 rfl) ?_
  refine lv_iload_n hx hb dL_law_310 rfl (lv_at hl 0 rfl) ?_
  refine lv_iconst (v := 3) hx hb dL_law_311 (by decide) ?_
  refine lv_iadd hx hb dL_law_312 ?_
  refine va_sld (i := i + 3) hx hb hX hbl hbA hS (law_in hi hiL (d := 3) (by decide) (by decide) (by decide)) dL_law_313 ?_
  refine lv_aload_n hx hb dL_law_314 rfl (lv_at hl 3 rfl) ?_
  refine lv_iload_n hx hb dL_law_315 rfl (lv_at hl 0 rfl) ?_
  refine lv_iconst (v := 4) hx hb dL_law_316 (by decide) ?_
  refine lv_iadd hx hb dL_law_317 ?_
  refine va_sld (i := i + 4) hx hb hX hbl hbA hS (law_in hi hiL (d := 4) (by decide) (by decide) (by decide)) dL_law_318 ?_
  refine lv_aload_n hx hb dL_law_319 rfl (lv_at hl 3 rfl) ?_
  refine lv_iload_n hx hb dL_law_320 rfl (lv_at hl 0 rfl) ?_
  refine lv_iconst (v := 5) hx hb dL_law_321 (by decide) ?_
  refine lv_iadd hx hb dL_law_322 ?_
  refine va_sld (i := i + 5) hx hb hX hbl hbA hS (law_in hi hiL (d := 5) (by decide) (by decide) (by decide)) dL_law_323 ?_
  refine ti_calli (va_runV (As := [.int (xs (i + 1).toNatClampNeg), .int (xs (i + 2).toNatClampNeg), .int (xs (i + 3).toNatClampNeg), .int (xs (i + 4).toNatClampNeg), .int (xs (i + 5).toNatClampNeg)]) (rest := []) ⟨hx, hb, hml, hown, hts⟩ (t_X10_feed l hT2 hy2 (iv_top _) (iv_top _) (iv_top _) (iv_top _) (iv_top _) hU) (cwV 5 hts (good_V kw_168 kw_169 kw_170 kw_5 kw_171) rfl rfl rfl (by decide +kernel) ⟨by decide, by decide⟩) (ti_preV hK hT2 hy2 rfl rfl) rfl rfl hl.1 rfl (lv_room (Nat.le_of_ble_eq_true rfl)) dL_law_324 ⟨by decide, by decide⟩) hS (fun q h => hA2 q (pW_pA h)) (fun r2 H locs hB hS _ hk => ?_)
  obtain ⟨hT2, ir2⟩ := hB
  have hT1 := TI.frameW hT1 (fun q h1 h2 => hdis q h2 h1) hk
  refine lv_pop hx hb dL_law_327 rfl ?_
  refine lv_goto (tgt := 2019) hx hb dL_law_328 (by decide) ?_
  exact nxt ν2 H locs hT1 hT2 hν hS
set_option maxHeartbeats 8000000 in
set_option maxRecDepth 100000 in
theorem law_c1 {p : Program} {e : Env} {s : State} {m : MethodId} {below : List Frame} {meth : Method} {c : Code} (l : Launch) {b L : Nat} {xs : Nat → Int32} (hL : L ≤ 3072) (hx : p.tables.exec = Jvm.exec) (hb : c.code = code) (hr : meth.sig.returnType = ret) (hml : c.maxLocals = 4) (hown : s.vm.findClass RL = some m.cls) (hts : ∀ w ∈ wq, w.before #[Value.ref b] s = true) (hX : va_X b L xs s s.heap) (hbl : b < s.heap.size) (hlocks : meth.locks = false) {D : va_G} {c0 : Nat → ClassId} {Y1 Y2 : Nat → Option Nat} {o1 o2 : Nat} {adK adV : Nat → Nat} (hK : va_K D vwCl (tysOf c0) s) (hSO : SO (fun q : Nat => s.heap.size ≤ q) adK adV s s.heap) (hdis : ∀ q, pA Y1 q → pA Y2 q → False) (hU : uq Y2) (hy1 : Y1 o1 = some 9) (hA1 : ∀ q, pA Y1 q → s.heap.size ≤ q) (hy2 : Y2 o2 = some 10) (hA2 : ∀ q, pA Y2 q → s.heap.size ≤ q) {ν2 : Nat → Nat} {i : Int32} {H : Heap} {locs : List Loc} {ls : Array Slot} (hi : iv i 0 3066) (hiL : i.toInt + 6 ≤ (L : Int)) (hT1 : TI D vwCl (tysOf c0) (RTg (fun _ => 0)) Y1 H) (hT2 : TI D vwCl (tysOf c0) (RTg ν2) Y2 H) (hν : nuOK ν2) (hS : va_S (fun q : Nat => s.heap.size ≤ q) s.heap H locs) (hl : lv_has ls 4 [(3, .int i), (2, .ref o2), (1, .ref o1), (0, .ref b)]) (nxt : ∀ (ν2 : Nat → Nat) (H : Heap) (locs : List Loc), TI D vwCl (tysOf c0) (RTg (fun _ => 0)) Y1 H → TI D vwCl (tysOf c0) (RTg ν2) Y2 H → nuOK ν2 → va_S (fun q : Nat => s.heap.size ≤ q) s.heap H locs → W p l e room_1 s m #[Value.ref b] below meth c H locs 188 7230 (lw_Z below #[Value.ref b] s) (F0 m 2019 ls [])) : W p l e room_1 s m #[Value.ref b] below meth c H locs 188 7230 (lw_Z below #[Value.ref b] s) (F0 m 331 ls []) := by
  have hbA : ¬ (fun q : Nat => s.heap.size ≤ q) b := Nat.not_le.mpr hbl
  refine lv_aload_n hx hb dL_law_331 rfl (lv_at hl 2 rfl) ?_
  refine lv_aload_n hx hb dL_law_332 rfl (lv_at hl 3 rfl) ?_
  refine lv_iload_n hx hb dL_law_333 rfl (lv_at hl 0 rfl) ?_
  refine lv_iconst (v := 1) hx hb dL_law_334 (by decide) ?_
  refine lv_iadd hx hb dL_law_335 ?_
  refine va_sld (i := i + 1) hx hb hX hbl hbA hS (law_in hi hiL (d := 1) (by decide) (by decide) (by decide)) dL_law_336 ?_
  refine ti_calli (va_runV (As := [.int (xs (i + 1).toNatClampNeg)]) (rest := []) ⟨hx, hb, hml, hown, hts⟩ (t_X9_end l hT1 hy1 (iv_top _)) (cwV 1 hts (good_V kw_173 kw_174 kw_175 kw_2 kw_176) rfl rfl rfl (by decide +kernel) ⟨by decide, by decide⟩) (ti_preV hK hT1 hy1 rfl rfl) rfl rfl hl.1 rfl (lv_room (Nat.le_of_ble_eq_true rfl)) dL_law_337 ⟨by decide, by decide⟩) hS (fun q h => hA1 q (pW_pA h)) (fun r1 H locs hB hS _ hk => ?_)
  obtain ⟨hT1, ir1⟩ := hB
  have hT2 := TI.frameW hT2 hdis hk
  refine lv_pop hx hb dL_law_340 rfl ?_
  refine lv_aload_n hx hb dL_law_341 rfl (lv_at hl 1 rfl) ?_
  refine lv_aload_n hx hb dL_law_342 rfl (lv_at hl 3 rfl) ?_
  refine lv_iload_n hx hb dL_law_343 rfl (lv_at hl 0 rfl) ?_
  refine lv_iconst (v := 1) hx hb dL_law_344 (by decide) ?_
  refine lv_iadd hx hb dL_law_345 ?_
  refine va_sld (i := i + 1) hx hb hX hbl hbA hS (law_in hi hiL (d := 1) (by decide) (by decide) (by decide)) dL_law_346 ?_
  refine ti_calli (va_runV (As := [.int (xs (i + 1).toNatClampNeg)]) (rest := []) ⟨hx, hb, hml, hown, hts⟩ (t_X10_end l hT2 hy2 (iv_top _) hU) (cwV 1 hts (good_V kw_177 kw_178 kw_179 kw_5 kw_180) rfl rfl rfl (by decide +kernel) ⟨by decide, by decide⟩) (ti_preV hK hT2 hy2 rfl rfl) rfl rfl hl.1 rfl (lv_room (Nat.le_of_ble_eq_true rfl)) dL_law_347 ⟨by decide, by decide⟩) hS (fun q h => hA2 q (pW_pA h)) (fun r2 H locs hB hS _ hk => ?_)
  obtain ⟨hT2, ir2⟩ := hB
  have hT1 := TI.frameW hT1 (fun q h1 h2 => hdis q h2 h1) hk
  refine lv_pop hx hb dL_law_350 rfl ?_
  refine lv_goto (tgt := 2019) hx hb dL_law_351 (by decide) ?_
  exact nxt ν2 H locs hT1 hT2 hν hS
set_option maxHeartbeats 8000000 in
set_option maxRecDepth 100000 in
theorem law_c2 {p : Program} {e : Env} {s : State} {m : MethodId} {below : List Frame} {meth : Method} {c : Code} (l : Launch) {b L : Nat} {xs : Nat → Int32} (hL : L ≤ 3072) (hx : p.tables.exec = Jvm.exec) (hb : c.code = code) (hr : meth.sig.returnType = ret) (hml : c.maxLocals = 4) (hown : s.vm.findClass RL = some m.cls) (hts : ∀ w ∈ wq, w.before #[Value.ref b] s = true) (hX : va_X b L xs s s.heap) (hbl : b < s.heap.size) (hlocks : meth.locks = false) {D : va_G} {c0 : Nat → ClassId} {Y1 Y2 : Nat → Option Nat} {o1 o2 : Nat} {adK adV : Nat → Nat} (hK : va_K D vwCl (tysOf c0) s) (hSO : SO (fun q : Nat => s.heap.size ≤ q) adK adV s s.heap) (hdis : ∀ q, pA Y1 q → pA Y2 q → False) (hU : uq Y2) (hy1 : Y1 o1 = some 9) (hA1 : ∀ q, pA Y1 q → s.heap.size ≤ q) (hy2 : Y2 o2 = some 10) (hA2 : ∀ q, pA Y2 q → s.heap.size ≤ q) {ν2 : Nat → Nat} {i : Int32} {H : Heap} {locs : List Loc} {ls : Array Slot} (hi : iv i 0 3066) (hiL : i.toInt + 6 ≤ (L : Int)) (hT1 : TI D vwCl (tysOf c0) (RTg (fun _ => 0)) Y1 H) (hT2 : TI D vwCl (tysOf c0) (RTg ν2) Y2 H) (hν : nuOK ν2) (hS : va_S (fun q : Nat => s.heap.size ≤ q) s.heap H locs) (hl : lv_has ls 4 [(3, .int i), (2, .ref o2), (1, .ref o1), (0, .ref b)]) (nxt : ∀ (ν2 : Nat → Nat) (H : Heap) (locs : List Loc), TI D vwCl (tysOf c0) (RTg (fun _ => 0)) Y1 H → TI D vwCl (tysOf c0) (RTg ν2) Y2 H → nuOK ν2 → va_S (fun q : Nat => s.heap.size ≤ q) s.heap H locs → W p l e room_1 s m #[Value.ref b] below meth c H locs 188 7230 (lw_Z below #[Value.ref b] s) (F0 m 2019 ls [])) : W p l e room_1 s m #[Value.ref b] below meth c H locs 188 7230 (lw_Z below #[Value.ref b] s) (F0 m 354 ls []) := by
  have hbA : ¬ (fun q : Nat => s.heap.size ≤ q) b := Nat.not_le.mpr hbl
  refine lv_aload_n hx hb dL_law_354 rfl (lv_at hl 2 rfl) ?_
  refine ti_calli (va_runV (As := []) (rest := []) ⟨hx, hb, hml, hown, hts⟩ (t_X9_town l hT1 hy1 ) (cwV 0 hts (good_V kw_184 kw_185 kw_186 kw_2 kw_187) rfl rfl rfl (by decide +kernel) ⟨by decide, by decide⟩) (ts_preL hK hSO hS hA1 hT1 hy1 rfl rfl) rfl rfl hl.1 rfl (lv_room (Nat.le_of_ble_eq_true rfl)) dL_law_355 ⟨by decide, by decide⟩) hS (fun q h => hA1 q (pW_pA h)) (fun r1 H locs hB hS _ hk => ?_)
  have hT1 := hB
  have hT2 := TI.frameW hT2 hdis hk
  refine lv_pop hx hb dL_law_358 rfl ?_
  refine lv_aload_n hx hb dL_law_359 rfl (lv_at hl 1 rfl) ?_
  refine ti_calli (va_runV (As := []) (rest := []) ⟨hx, hb, hml, hown, hts⟩ (t_X10_town l hT2 hy2 hν.2.1 hU) (cwV 0 hts (good_V kw_374 kw_375 kw_376 kw_5 kw_377) rfl rfl rfl (by decide +kernel) ⟨by decide, by decide⟩) (ts_preL hK hSO hS hA2 hT2 hy2 rfl rfl) rfl rfl hl.1 rfl (lv_room (Nat.le_of_ble_eq_true rfl)) dL_law_360 ⟨by decide, by decide⟩) hS (fun q h => hA2 q (pW_pA h)) (fun r2 H locs hB hS _ hk => ?_)
  have hT2 := hB
  have hT1 := TI.frameW hT1 (fun q h1 h2 => hdis q h2 h1) hk
  refine lv_pop hx hb dL_law_363 rfl ?_
  refine lv_goto (tgt := 2019) hx hb dL_law_364 (by decide) ?_
  exact nxt ν2 H locs hT1 hT2 hν hS
set_option maxHeartbeats 8000000 in
set_option maxRecDepth 100000 in
theorem law_c3 {p : Program} {e : Env} {s : State} {m : MethodId} {below : List Frame} {meth : Method} {c : Code} (l : Launch) {b L : Nat} {xs : Nat → Int32} (hL : L ≤ 3072) (hx : p.tables.exec = Jvm.exec) (hb : c.code = code) (hr : meth.sig.returnType = ret) (hml : c.maxLocals = 4) (hown : s.vm.findClass RL = some m.cls) (hts : ∀ w ∈ wq, w.before #[Value.ref b] s = true) (hX : va_X b L xs s s.heap) (hbl : b < s.heap.size) (hlocks : meth.locks = false) {D : va_G} {c0 : Nat → ClassId} {Y1 Y2 : Nat → Option Nat} {o1 o2 : Nat} {adK adV : Nat → Nat} (hK : va_K D vwCl (tysOf c0) s) (hSO : SO (fun q : Nat => s.heap.size ≤ q) adK adV s s.heap) (hdis : ∀ q, pA Y1 q → pA Y2 q → False) (hU : uq Y2) (hy1 : Y1 o1 = some 9) (hA1 : ∀ q, pA Y1 q → s.heap.size ≤ q) (hy2 : Y2 o2 = some 10) (hA2 : ∀ q, pA Y2 q → s.heap.size ≤ q) {ν2 : Nat → Nat} {i : Int32} {H : Heap} {locs : List Loc} {ls : Array Slot} (hi : iv i 0 3066) (hiL : i.toInt + 6 ≤ (L : Int)) (hT1 : TI D vwCl (tysOf c0) (RTg (fun _ => 0)) Y1 H) (hT2 : TI D vwCl (tysOf c0) (RTg ν2) Y2 H) (hν : nuOK ν2) (hS : va_S (fun q : Nat => s.heap.size ≤ q) s.heap H locs) (hl : lv_has ls 4 [(3, .int i), (2, .ref o2), (1, .ref o1), (0, .ref b)]) (nxt : ∀ (ν2 : Nat → Nat) (H : Heap) (locs : List Loc), TI D vwCl (tysOf c0) (RTg (fun _ => 0)) Y1 H → TI D vwCl (tysOf c0) (RTg ν2) Y2 H → nuOK ν2 → va_S (fun q : Nat => s.heap.size ≤ q) s.heap H locs → W p l e room_1 s m #[Value.ref b] below meth c H locs 188 7230 (lw_Z below #[Value.ref b] s) (F0 m 2019 ls [])) : W p l e room_1 s m #[Value.ref b] below meth c H locs 188 7230 (lw_Z below #[Value.ref b] s) (F0 m 367 ls []) := by
  have hbA : ¬ (fun q : Nat => s.heap.size ≤ q) b := Nat.not_le.mpr hbl
  refine lv_aload_n hx hb dL_law_367 rfl (lv_at hl 2 rfl) ?_
  refine lv_aload_n hx hb dL_law_368 rfl (lv_at hl 3 rfl) ?_
  refine lv_iload_n hx hb dL_law_369 rfl (lv_at hl 0 rfl) ?_
  refine lv_iconst (v := 1) hx hb dL_law_370 (by decide) ?_
  refine lv_iadd hx hb dL_law_371 ?_
  refine va_sld (i := i + 1) hx hb hX hbl hbA hS (law_in hi hiL (d := 1) (by decide) (by decide) (by decide)) dL_law_372 ?_
  refine ti_calli (va_runV (As := [.int (xs (i + 1).toNatClampNeg)]) (rest := []) ⟨hx, hb, hml, hown, hts⟩ (t_X9_fault l hT1 hy1 (iv_top _)) (cwV 1 hts (good_V kw_457 kw_458 kw_459 kw_2 kw_460) rfl rfl rfl (by decide +kernel) ⟨by decide, by decide⟩) (ti_preV hK hT1 hy1 rfl rfl) rfl rfl hl.1 rfl (lv_room (Nat.le_of_ble_eq_true rfl)) dL_law_373 ⟨by decide, by decide⟩) hS (fun q h => hA1 q (pW_pA h)) (fun r1 H1 locs hB hS _ hk => ?_)
  have hH := hB
  rw [hH] at hS ⊢
  refine lv_pop hx hb dL_law_376 rfl ?_
  refine lv_aload_n hx hb dL_law_377 rfl (lv_at hl 1 rfl) ?_
  refine lv_aload_n hx hb dL_law_378 rfl (lv_at hl 3 rfl) ?_
  refine lv_iload_n hx hb dL_law_379 rfl (lv_at hl 0 rfl) ?_
  refine lv_iconst (v := 1) hx hb dL_law_380 (by decide) ?_
  refine lv_iadd hx hb dL_law_381 ?_
  refine va_sld (i := i + 1) hx hb hX hbl hbA hS (law_in hi hiL (d := 1) (by decide) (by decide) (by decide)) dL_law_382 ?_
  refine ti_calli (va_runV (As := [.int (xs (i + 1).toNatClampNeg)]) (rest := []) ⟨hx, hb, hml, hown, hts⟩ (t_X10_fault l hT2 hy2 (iv_top _) hU) (cwV 1 hts (good_V kw_463 kw_464 kw_465 kw_5 kw_466) rfl rfl rfl (by decide +kernel) ⟨by decide, by decide⟩) (ti_preV hK hT2 hy2 rfl rfl) rfl rfl hl.1 rfl (lv_room (Nat.le_of_ble_eq_true rfl)) dL_law_383 ⟨by decide, by decide⟩) hS (fun q h => hA2 q (pW_pA h)) (fun r2 H1 locs hB hS _ hk => ?_)
  have hH := hB
  rw [hH] at hS ⊢
  refine lv_pop hx hb dL_law_386 rfl ?_
  refine lv_goto (tgt := 2019) hx hb dL_law_387 (by decide) ?_
  exact nxt ν2 H locs hT1 hT2 hν hS
set_option maxHeartbeats 8000000 in
set_option maxRecDepth 100000 in
theorem law_c4 {p : Program} {e : Env} {s : State} {m : MethodId} {below : List Frame} {meth : Method} {c : Code} (l : Launch) {b L : Nat} {xs : Nat → Int32} (hL : L ≤ 3072) (hx : p.tables.exec = Jvm.exec) (hb : c.code = code) (hr : meth.sig.returnType = ret) (hml : c.maxLocals = 4) (hown : s.vm.findClass RL = some m.cls) (hts : ∀ w ∈ wq, w.before #[Value.ref b] s = true) (hX : va_X b L xs s s.heap) (hbl : b < s.heap.size) (hlocks : meth.locks = false) {D : va_G} {c0 : Nat → ClassId} {Y1 Y2 : Nat → Option Nat} {o1 o2 : Nat} {adK adV : Nat → Nat} (hK : va_K D vwCl (tysOf c0) s) (hSO : SO (fun q : Nat => s.heap.size ≤ q) adK adV s s.heap) (hdis : ∀ q, pA Y1 q → pA Y2 q → False) (hU : uq Y2) (hy1 : Y1 o1 = some 9) (hA1 : ∀ q, pA Y1 q → s.heap.size ≤ q) (hy2 : Y2 o2 = some 10) (hA2 : ∀ q, pA Y2 q → s.heap.size ≤ q) {ν2 : Nat → Nat} {i : Int32} {H : Heap} {locs : List Loc} {ls : Array Slot} (hi : iv i 0 3066) (hiL : i.toInt + 6 ≤ (L : Int)) (hT1 : TI D vwCl (tysOf c0) (RTg (fun _ => 0)) Y1 H) (hT2 : TI D vwCl (tysOf c0) (RTg ν2) Y2 H) (hν : nuOK ν2) (hS : va_S (fun q : Nat => s.heap.size ≤ q) s.heap H locs) (hl : lv_has ls 4 [(3, .int i), (2, .ref o2), (1, .ref o1), (0, .ref b)]) (nxt : ∀ (ν2 : Nat → Nat) (H : Heap) (locs : List Loc), TI D vwCl (tysOf c0) (RTg (fun _ => 0)) Y1 H → TI D vwCl (tysOf c0) (RTg ν2) Y2 H → nuOK ν2 → va_S (fun q : Nat => s.heap.size ≤ q) s.heap H locs → W p l e room_1 s m #[Value.ref b] below meth c H locs 188 7230 (lw_Z below #[Value.ref b] s) (F0 m 2019 ls [])) : W p l e room_1 s m #[Value.ref b] below meth c H locs 188 7230 (lw_Z below #[Value.ref b] s) (F0 m 390 ls []) := by
  have hbA : ¬ (fun q : Nat => s.heap.size ≤ q) b := Nat.not_le.mpr hbl
  refine lv_aload_n hx hb dL_law_390 rfl (lv_at hl 2 rfl) ?_
  refine lv_aload_n hx hb dL_law_391 rfl (lv_at hl 3 rfl) ?_
  refine lv_iload_n hx hb dL_law_392 rfl (lv_at hl 0 rfl) ?_
  refine lv_iconst (v := 1) hx hb dL_law_393 (by decide) ?_
  refine lv_iadd hx hb dL_law_394 ?_
  refine va_sld (i := i + 1) hx hb hX hbl hbA hS (law_in hi hiL (d := 1) (by decide) (by decide) (by decide)) dL_law_395 ?_
  refine lv_aload_n hx hb dL_law_396 rfl (lv_at hl 3 rfl) ?_
  refine lv_iload_n hx hb dL_law_397 rfl (lv_at hl 0 rfl) ?_
  refine lv_iconst (v := 2) hx hb dL_law_398 (by decide) ?_
  refine lv_iadd hx hb dL_law_399 ?_
  refine va_sld (i := i + 2) hx hb hX hbl hbA hS (law_in hi hiL (d := 2) (by decide) (by decide) (by decide)) dL_law_400 ?_
  refine ti_calli (va_runV (As := [.int (xs (i + 1).toNatClampNeg), .int (xs (i + 2).toNatClampNeg)]) (rest := []) ⟨hx, hb, hml, hown, hts⟩ (t_X9_person l hT1 hy1 (iv_top _) (iv_top _)) (cwV 2 hts (good_V kw_467 kw_468 kw_469 kw_2 kw_470) rfl rfl rfl (by decide +kernel) ⟨by decide, by decide⟩) (ti_preV hK hT1 hy1 rfl rfl) rfl rfl hl.1 rfl (lv_room (Nat.le_of_ble_eq_true rfl)) dL_law_401 ⟨by decide, by decide⟩) hS (fun q h => hA1 q (pW_pA h)) (fun r1 H1 locs hB hS _ hk => ?_)
  have hH := hB
  rw [hH] at hS ⊢
  refine lv_pop hx hb dL_law_404 rfl ?_
  refine lv_aload_n hx hb dL_law_405 rfl (lv_at hl 1 rfl) ?_
  refine lv_aload_n hx hb dL_law_406 rfl (lv_at hl 3 rfl) ?_
  refine lv_iload_n hx hb dL_law_407 rfl (lv_at hl 0 rfl) ?_
  refine lv_iconst (v := 1) hx hb dL_law_408 (by decide) ?_
  refine lv_iadd hx hb dL_law_409 ?_
  refine va_sld (i := i + 1) hx hb hX hbl hbA hS (law_in hi hiL (d := 1) (by decide) (by decide) (by decide)) dL_law_410 ?_
  refine lv_aload_n hx hb dL_law_411 rfl (lv_at hl 3 rfl) ?_
  refine lv_iload_n hx hb dL_law_412 rfl (lv_at hl 0 rfl) ?_
  refine lv_iconst (v := 2) hx hb dL_law_413 (by decide) ?_
  refine lv_iadd hx hb dL_law_414 ?_
  refine va_sld (i := i + 2) hx hb hX hbl hbA hS (law_in hi hiL (d := 2) (by decide) (by decide) (by decide)) dL_law_415 ?_
  refine ti_calli (va_runV (As := [.int (xs (i + 1).toNatClampNeg), .int (xs (i + 2).toNatClampNeg)]) (rest := []) ⟨hx, hb, hml, hown, hts⟩ (t_X10_person l hT2 hy2 (iv_top _) (iv_top _) hU) (cwV 2 hts (good_V kw_481 kw_482 kw_483 kw_5 kw_484) rfl rfl rfl (by decide +kernel) ⟨by decide, by decide⟩) (ti_preV hK hT2 hy2 rfl rfl) rfl rfl hl.1 rfl (lv_room (Nat.le_of_ble_eq_true rfl)) dL_law_416 ⟨by decide, by decide⟩) hS (fun q h => hA2 q (pW_pA h)) (fun r2 H1 locs hB hS _ hk => ?_)
  have hH := hB
  rw [hH] at hS ⊢
  refine lv_pop hx hb dL_law_419 rfl ?_
  refine lv_goto (tgt := 2019) hx hb dL_law_420 (by decide) ?_
  exact nxt ν2 H locs hT1 hT2 hν hS
set_option maxHeartbeats 8000000 in
set_option maxRecDepth 100000 in
theorem law_c5 {p : Program} {e : Env} {s : State} {m : MethodId} {below : List Frame} {meth : Method} {c : Code} (l : Launch) {b L : Nat} {xs : Nat → Int32} (hL : L ≤ 3072) (hx : p.tables.exec = Jvm.exec) (hb : c.code = code) (hr : meth.sig.returnType = ret) (hml : c.maxLocals = 4) (hown : s.vm.findClass RL = some m.cls) (hts : ∀ w ∈ wq, w.before #[Value.ref b] s = true) (hX : va_X b L xs s s.heap) (hbl : b < s.heap.size) (hlocks : meth.locks = false) {D : va_G} {c0 : Nat → ClassId} {Y1 Y2 : Nat → Option Nat} {o1 o2 : Nat} {adK adV : Nat → Nat} (hK : va_K D vwCl (tysOf c0) s) (hSO : SO (fun q : Nat => s.heap.size ≤ q) adK adV s s.heap) (hdis : ∀ q, pA Y1 q → pA Y2 q → False) (hU : uq Y2) (hy1 : Y1 o1 = some 9) (hA1 : ∀ q, pA Y1 q → s.heap.size ≤ q) (hy2 : Y2 o2 = some 10) (hA2 : ∀ q, pA Y2 q → s.heap.size ≤ q) {ν2 : Nat → Nat} {i : Int32} {H : Heap} {locs : List Loc} {ls : Array Slot} (hi : iv i 0 3066) (hiL : i.toInt + 6 ≤ (L : Int)) (hT1 : TI D vwCl (tysOf c0) (RTg (fun _ => 0)) Y1 H) (hT2 : TI D vwCl (tysOf c0) (RTg ν2) Y2 H) (hν : nuOK ν2) (hS : va_S (fun q : Nat => s.heap.size ≤ q) s.heap H locs) (hl : lv_has ls 4 [(3, .int i), (2, .ref o2), (1, .ref o1), (0, .ref b)]) (nxt : ∀ (ν2 : Nat → Nat) (H : Heap) (locs : List Loc), TI D vwCl (tysOf c0) (RTg (fun _ => 0)) Y1 H → TI D vwCl (tysOf c0) (RTg ν2) Y2 H → nuOK ν2 → va_S (fun q : Nat => s.heap.size ≤ q) s.heap H locs → W p l e room_1 s m #[Value.ref b] below meth c H locs 188 7230 (lw_Z below #[Value.ref b] s) (F0 m 2019 ls [])) : W p l e room_1 s m #[Value.ref b] below meth c H locs 188 7230 (lw_Z below #[Value.ref b] s) (F0 m 423 ls []) := by
  have hbA : ¬ (fun q : Nat => s.heap.size ≤ q) b := Nat.not_le.mpr hbl
  refine lv_aload_n hx hb dL_law_423 rfl (lv_at hl 2 rfl) ?_
  refine lv_aload_n hx hb dL_law_424 rfl (lv_at hl 3 rfl) ?_
  refine lv_iload_n hx hb dL_law_425 rfl (lv_at hl 0 rfl) ?_
  refine lv_iconst (v := 1) hx hb dL_law_426 (by decide) ?_
  refine lv_iadd hx hb dL_law_427 ?_
  refine va_sld (i := i + 1) hx hb hX hbl hbA hS (law_in hi hiL (d := 1) (by decide) (by decide) (by decide)) dL_law_428 ?_
  refine lv_aload_n hx hb dL_law_429 rfl (lv_at hl 3 rfl) ?_
  refine lv_iload_n hx hb dL_law_430 rfl (lv_at hl 0 rfl) ?_
  refine lv_iconst (v := 2) hx hb dL_law_431 (by decide) ?_
  refine lv_iadd hx hb dL_law_432 ?_
  refine va_sld (i := i + 2) hx hb hX hbl hbA hS (law_in hi hiL (d := 2) (by decide) (by decide) (by decide)) dL_law_433 ?_
  refine ti_calli (va_runV (As := [.int (xs (i + 1).toNatClampNeg), .int (xs (i + 2).toNatClampNeg)]) (rest := []) ⟨hx, hb, hml, hown, hts⟩ (t_X9_have l hT1 hy1 (iv_top _) (iv_top _)) (cwV 2 hts (good_V kw_494 kw_495 kw_496 kw_2 kw_497) rfl rfl rfl (by decide +kernel) ⟨by decide, by decide⟩) (ti_preV hK hT1 hy1 rfl rfl) rfl rfl hl.1 rfl (lv_room (Nat.le_of_ble_eq_true rfl)) dL_law_434 ⟨by decide, by decide⟩) hS (fun q h => hA1 q (pW_pA h)) (fun r1 H locs hB hS _ hk => ?_)
  obtain ⟨hT1, ir1⟩ := hB
  have hT2 := TI.frameW hT2 hdis hk
  refine lv_pop hx hb dL_law_437 rfl ?_
  refine lv_aload_n hx hb dL_law_438 rfl (lv_at hl 1 rfl) ?_
  refine lv_aload_n hx hb dL_law_439 rfl (lv_at hl 3 rfl) ?_
  refine lv_iload_n hx hb dL_law_440 rfl (lv_at hl 0 rfl) ?_
  refine lv_iconst (v := 1) hx hb dL_law_441 (by decide) ?_
  refine lv_iadd hx hb dL_law_442 ?_
  refine va_sld (i := i + 1) hx hb hX hbl hbA hS (law_in hi hiL (d := 1) (by decide) (by decide) (by decide)) dL_law_443 ?_
  refine lv_aload_n hx hb dL_law_444 rfl (lv_at hl 3 rfl) ?_
  refine lv_iload_n hx hb dL_law_445 rfl (lv_at hl 0 rfl) ?_
  refine lv_iconst (v := 2) hx hb dL_law_446 (by decide) ?_
  refine lv_iadd hx hb dL_law_447 ?_
  refine va_sld (i := i + 2) hx hb hX hbl hbA hS (law_in hi hiL (d := 2) (by decide) (by decide) (by decide)) dL_law_448 ?_
  refine ti_calli (va_runV (As := [.int (xs (i + 1).toNatClampNeg), .int (xs (i + 2).toNatClampNeg)]) (rest := []) ⟨hx, hb, hml, hown, hts⟩ (t_X10_have l hT2 hy2 (iv_top _) (iv_top _) hU) (cwV 2 hts (good_V kw_503 kw_504 kw_505 kw_5 kw_506) rfl rfl rfl (by decide +kernel) ⟨by decide, by decide⟩) (ti_preV hK hT2 hy2 rfl rfl) rfl rfl hl.1 rfl (lv_room (Nat.le_of_ble_eq_true rfl)) dL_law_449 ⟨by decide, by decide⟩) hS (fun q h => hA2 q (pW_pA h)) (fun r2 H locs hB hS _ hk => ?_)
  obtain ⟨hT2, ir2⟩ := hB
  have hT1 := TI.frameW hT1 (fun q h1 h2 => hdis q h2 h1) hk
  refine lv_pop hx hb dL_law_452 rfl ?_
  refine lv_goto (tgt := 2019) hx hb dL_law_453 (by decide) ?_
  exact nxt ν2 H locs hT1 hT2 hν hS
set_option maxHeartbeats 8000000 in
set_option maxRecDepth 100000 in
theorem law_c6 {p : Program} {e : Env} {s : State} {m : MethodId} {below : List Frame} {meth : Method} {c : Code} (l : Launch) {b L : Nat} {xs : Nat → Int32} (hL : L ≤ 3072) (hx : p.tables.exec = Jvm.exec) (hb : c.code = code) (hr : meth.sig.returnType = ret) (hml : c.maxLocals = 4) (hown : s.vm.findClass RL = some m.cls) (hts : ∀ w ∈ wq, w.before #[Value.ref b] s = true) (hX : va_X b L xs s s.heap) (hbl : b < s.heap.size) (hlocks : meth.locks = false) {D : va_G} {c0 : Nat → ClassId} {Y1 Y2 : Nat → Option Nat} {o1 o2 : Nat} {adK adV : Nat → Nat} (hK : va_K D vwCl (tysOf c0) s) (hSO : SO (fun q : Nat => s.heap.size ≤ q) adK adV s s.heap) (hdis : ∀ q, pA Y1 q → pA Y2 q → False) (hU : uq Y2) (hy1 : Y1 o1 = some 9) (hA1 : ∀ q, pA Y1 q → s.heap.size ≤ q) (hy2 : Y2 o2 = some 10) (hA2 : ∀ q, pA Y2 q → s.heap.size ≤ q) {ν2 : Nat → Nat} {i : Int32} {H : Heap} {locs : List Loc} {ls : Array Slot} (hi : iv i 0 3066) (hiL : i.toInt + 6 ≤ (L : Int)) (hT1 : TI D vwCl (tysOf c0) (RTg (fun _ => 0)) Y1 H) (hT2 : TI D vwCl (tysOf c0) (RTg ν2) Y2 H) (hν : nuOK ν2) (hS : va_S (fun q : Nat => s.heap.size ≤ q) s.heap H locs) (hl : lv_has ls 4 [(3, .int i), (2, .ref o2), (1, .ref o1), (0, .ref b)]) (nxt : ∀ (ν2 : Nat → Nat) (H : Heap) (locs : List Loc), TI D vwCl (tysOf c0) (RTg (fun _ => 0)) Y1 H → TI D vwCl (tysOf c0) (RTg ν2) Y2 H → nuOK ν2 → va_S (fun q : Nat => s.heap.size ≤ q) s.heap H locs → W p l e room_1 s m #[Value.ref b] below meth c H locs 188 7230 (lw_Z below #[Value.ref b] s) (F0 m 2019 ls [])) : W p l e room_1 s m #[Value.ref b] below meth c H locs 188 7230 (lw_Z below #[Value.ref b] s) (F0 m 456 ls []) := by
  have hbA : ¬ (fun q : Nat => s.heap.size ≤ q) b := Nat.not_le.mpr hbl
  refine lv_aload_n hx hb dL_law_456 rfl (lv_at hl 2 rfl) ?_
  refine lv_aload_n hx hb dL_law_457 rfl (lv_at hl 3 rfl) ?_
  refine lv_iload_n hx hb dL_law_458 rfl (lv_at hl 0 rfl) ?_
  refine lv_iconst (v := 1) hx hb dL_law_459 (by decide) ?_
  refine lv_iadd hx hb dL_law_460 ?_
  refine va_sld (i := i + 1) hx hb hX hbl hbA hS (law_in hi hiL (d := 1) (by decide) (by decide) (by decide)) dL_law_461 ?_
  refine lv_aload_n hx hb dL_law_462 rfl (lv_at hl 3 rfl) ?_
  refine lv_iload_n hx hb dL_law_463 rfl (lv_at hl 0 rfl) ?_
  refine lv_iconst (v := 2) hx hb dL_law_464 (by decide) ?_
  refine lv_iadd hx hb dL_law_465 ?_
  refine va_sld (i := i + 2) hx hb hX hbl hbA hS (law_in hi hiL (d := 2) (by decide) (by decide) (by decide)) dL_law_466 ?_
  refine ti_calli (va_runV (As := [.int (xs (i + 1).toNatClampNeg), .int (xs (i + 2).toNatClampNeg)]) (rest := []) ⟨hx, hb, hml, hown, hts⟩ (t_X9_hide l hT1 hy1 (iv_top _) (iv_top _)) (cwV 2 hts (good_V kw_515 kw_516 kw_517 kw_2 kw_518) rfl rfl rfl (by decide +kernel) ⟨by decide, by decide⟩) (ti_preV hK hT1 hy1 rfl rfl) rfl rfl hl.1 rfl (lv_room (Nat.le_of_ble_eq_true rfl)) dL_law_467 ⟨by decide, by decide⟩) hS (fun q h => hA1 q (pW_pA h)) (fun r1 H locs hB hS _ hk => ?_)
  obtain ⟨hT1, ir1⟩ := hB
  have hT2 := TI.frameW hT2 hdis hk
  refine lv_pop hx hb dL_law_470 rfl ?_
  refine lv_aload_n hx hb dL_law_471 rfl (lv_at hl 1 rfl) ?_
  refine lv_aload_n hx hb dL_law_472 rfl (lv_at hl 3 rfl) ?_
  refine lv_iload_n hx hb dL_law_473 rfl (lv_at hl 0 rfl) ?_
  refine lv_iconst (v := 1) hx hb dL_law_474 (by decide) ?_
  refine lv_iadd hx hb dL_law_475 ?_
  refine va_sld (i := i + 1) hx hb hX hbl hbA hS (law_in hi hiL (d := 1) (by decide) (by decide) (by decide)) dL_law_476 ?_
  refine lv_aload_n hx hb dL_law_477 rfl (lv_at hl 3 rfl) ?_
  refine lv_iload_n hx hb dL_law_478 rfl (lv_at hl 0 rfl) ?_
  refine lv_iconst (v := 2) hx hb dL_law_479 (by decide) ?_
  refine lv_iadd hx hb dL_law_480 ?_
  refine va_sld (i := i + 2) hx hb hX hbl hbA hS (law_in hi hiL (d := 2) (by decide) (by decide) (by decide)) dL_law_481 ?_
  refine ti_calli (va_runV (As := [.int (xs (i + 1).toNatClampNeg), .int (xs (i + 2).toNatClampNeg)]) (rest := []) ⟨hx, hb, hml, hown, hts⟩ (t_X10_hide l hT2 hy2 (iv_top _) (iv_top _) hU) (cwV 2 hts (good_V kw_520 kw_521 kw_522 kw_5 kw_523) rfl rfl rfl (by decide +kernel) ⟨by decide, by decide⟩) (ti_preV hK hT2 hy2 rfl rfl) rfl rfl hl.1 rfl (lv_room (Nat.le_of_ble_eq_true rfl)) dL_law_482 ⟨by decide, by decide⟩) hS (fun q h => hA2 q (pW_pA h)) (fun r2 H locs hB hS _ hk => ?_)
  have hT2 := hB
  have hT1 := TI.frameW hT1 (fun q h1 h2 => hdis q h2 h1) hk
  refine lv_pop hx hb dL_law_485 rfl ?_
  refine lv_goto (tgt := 2019) hx hb dL_law_486 (by decide) ?_
  exact nxt ν2 H locs hT1 hT2 hν hS
set_option maxHeartbeats 8000000 in
set_option maxRecDepth 100000 in
theorem law_c7 {p : Program} {e : Env} {s : State} {m : MethodId} {below : List Frame} {meth : Method} {c : Code} (l : Launch) {b L : Nat} {xs : Nat → Int32} (hL : L ≤ 3072) (hx : p.tables.exec = Jvm.exec) (hb : c.code = code) (hr : meth.sig.returnType = ret) (hml : c.maxLocals = 4) (hown : s.vm.findClass RL = some m.cls) (hts : ∀ w ∈ wq, w.before #[Value.ref b] s = true) (hX : va_X b L xs s s.heap) (hbl : b < s.heap.size) (hlocks : meth.locks = false) {D : va_G} {c0 : Nat → ClassId} {Y1 Y2 : Nat → Option Nat} {o1 o2 : Nat} {adK adV : Nat → Nat} (hK : va_K D vwCl (tysOf c0) s) (hSO : SO (fun q : Nat => s.heap.size ≤ q) adK adV s s.heap) (hdis : ∀ q, pA Y1 q → pA Y2 q → False) (hU : uq Y2) (hy1 : Y1 o1 = some 9) (hA1 : ∀ q, pA Y1 q → s.heap.size ≤ q) (hy2 : Y2 o2 = some 10) (hA2 : ∀ q, pA Y2 q → s.heap.size ≤ q) {ν2 : Nat → Nat} {i : Int32} {H : Heap} {locs : List Loc} {ls : Array Slot} (hi : iv i 0 3066) (hiL : i.toInt + 6 ≤ (L : Int)) (hT1 : TI D vwCl (tysOf c0) (RTg (fun _ => 0)) Y1 H) (hT2 : TI D vwCl (tysOf c0) (RTg ν2) Y2 H) (hν : nuOK ν2) (hS : va_S (fun q : Nat => s.heap.size ≤ q) s.heap H locs) (hl : lv_has ls 4 [(3, .int i), (2, .ref o2), (1, .ref o1), (0, .ref b)]) (nxt : ∀ (ν2 : Nat → Nat) (H : Heap) (locs : List Loc), TI D vwCl (tysOf c0) (RTg (fun _ => 0)) Y1 H → TI D vwCl (tysOf c0) (RTg ν2) Y2 H → nuOK ν2 → va_S (fun q : Nat => s.heap.size ≤ q) s.heap H locs → W p l e room_1 s m #[Value.ref b] below meth c H locs 188 7230 (lw_Z below #[Value.ref b] s) (F0 m 2019 ls [])) : W p l e room_1 s m #[Value.ref b] below meth c H locs 188 7230 (lw_Z below #[Value.ref b] s) (F0 m 489 ls []) := by
  have hbA : ¬ (fun q : Nat => s.heap.size ≤ q) b := Nat.not_le.mpr hbl
  refine lv_aload_n hx hb dL_law_489 rfl (lv_at hl 2 rfl) ?_
  refine lv_aload_n hx hb dL_law_490 rfl (lv_at hl 3 rfl) ?_
  refine lv_iload_n hx hb dL_law_491 rfl (lv_at hl 0 rfl) ?_
  refine lv_iconst (v := 1) hx hb dL_law_492 (by decide) ?_
  refine lv_iadd hx hb dL_law_493 ?_
  refine va_sld (i := i + 1) hx hb hX hbl hbA hS (law_in hi hiL (d := 1) (by decide) (by decide) (by decide)) dL_law_494 ?_
  refine lv_aload_n hx hb dL_law_495 rfl (lv_at hl 3 rfl) ?_
  refine lv_iload_n hx hb dL_law_496 rfl (lv_at hl 0 rfl) ?_
  refine lv_iconst (v := 2) hx hb dL_law_497 (by decide) ?_
  refine lv_iadd hx hb dL_law_498 ?_
  refine va_sld (i := i + 2) hx hb hX hbl hbA hS (law_in hi hiL (d := 2) (by decide) (by decide) (by decide)) dL_law_499 ?_
  refine ti_calli (va_runV (As := [.int (xs (i + 1).toNatClampNeg), .int (xs (i + 2).toNatClampNeg)]) (rest := []) ⟨hx, hb, hml, hown, hts⟩ (t_X9_seen l hT1 hy1 (iv_top _) (iv_top _)) (cwV 2 hts (good_V kw_525 kw_526 kw_527 kw_2 kw_528) rfl rfl rfl (by decide +kernel) ⟨by decide, by decide⟩) (ti_preV hK hT1 hy1 rfl rfl) rfl rfl hl.1 rfl (lv_room (Nat.le_of_ble_eq_true rfl)) dL_law_500 ⟨by decide, by decide⟩) hS (fun q h => hA1 q (pW_pA h)) (fun r1 H1 locs hB hS _ hk => ?_)
  have hH := hB
  rw [hH] at hS ⊢
  refine lv_pop hx hb dL_law_503 rfl ?_
  refine lv_aload_n hx hb dL_law_504 rfl (lv_at hl 1 rfl) ?_
  refine lv_aload_n hx hb dL_law_505 rfl (lv_at hl 3 rfl) ?_
  refine lv_iload_n hx hb dL_law_506 rfl (lv_at hl 0 rfl) ?_
  refine lv_iconst (v := 1) hx hb dL_law_507 (by decide) ?_
  refine lv_iadd hx hb dL_law_508 ?_
  refine va_sld (i := i + 1) hx hb hX hbl hbA hS (law_in hi hiL (d := 1) (by decide) (by decide) (by decide)) dL_law_509 ?_
  refine lv_aload_n hx hb dL_law_510 rfl (lv_at hl 3 rfl) ?_
  refine lv_iload_n hx hb dL_law_511 rfl (lv_at hl 0 rfl) ?_
  refine lv_iconst (v := 2) hx hb dL_law_512 (by decide) ?_
  refine lv_iadd hx hb dL_law_513 ?_
  refine va_sld (i := i + 2) hx hb hX hbl hbA hS (law_in hi hiL (d := 2) (by decide) (by decide) (by decide)) dL_law_514 ?_
  refine ti_calli (va_runV (As := [.int (xs (i + 1).toNatClampNeg), .int (xs (i + 2).toNatClampNeg)]) (rest := []) ⟨hx, hb, hml, hown, hts⟩ (t_X10_seen l hT2 hy2 (iv_top _) (iv_top _) hU) (cwV 2 hts (good_V kw_541 kw_542 kw_543 kw_5 kw_544) rfl rfl rfl (by decide +kernel) ⟨by decide, by decide⟩) (ti_preV hK hT2 hy2 rfl rfl) rfl rfl hl.1 rfl (lv_room (Nat.le_of_ble_eq_true rfl)) dL_law_515 ⟨by decide, by decide⟩) hS (fun q h => hA2 q (pW_pA h)) (fun r2 H1 locs hB hS _ hk => ?_)
  have hH := hB
  rw [hH] at hS ⊢
  refine lv_pop hx hb dL_law_518 rfl ?_
  refine lv_goto (tgt := 2019) hx hb dL_law_519 (by decide) ?_
  exact nxt ν2 H locs hT1 hT2 hν hS
set_option maxHeartbeats 8000000 in
set_option maxRecDepth 100000 in
theorem law_c8 {p : Program} {e : Env} {s : State} {m : MethodId} {below : List Frame} {meth : Method} {c : Code} (l : Launch) {b L : Nat} {xs : Nat → Int32} (hL : L ≤ 3072) (hx : p.tables.exec = Jvm.exec) (hb : c.code = code) (hr : meth.sig.returnType = ret) (hml : c.maxLocals = 4) (hown : s.vm.findClass RL = some m.cls) (hts : ∀ w ∈ wq, w.before #[Value.ref b] s = true) (hX : va_X b L xs s s.heap) (hbl : b < s.heap.size) (hlocks : meth.locks = false) {D : va_G} {c0 : Nat → ClassId} {Y1 Y2 : Nat → Option Nat} {o1 o2 : Nat} {adK adV : Nat → Nat} (hK : va_K D vwCl (tysOf c0) s) (hSO : SO (fun q : Nat => s.heap.size ≤ q) adK adV s s.heap) (hdis : ∀ q, pA Y1 q → pA Y2 q → False) (hU : uq Y2) (hy1 : Y1 o1 = some 9) (hA1 : ∀ q, pA Y1 q → s.heap.size ≤ q) (hy2 : Y2 o2 = some 10) (hA2 : ∀ q, pA Y2 q → s.heap.size ≤ q) {ν2 : Nat → Nat} {i : Int32} {H : Heap} {locs : List Loc} {ls : Array Slot} (hi : iv i 0 3066) (hiL : i.toInt + 6 ≤ (L : Int)) (hT1 : TI D vwCl (tysOf c0) (RTg (fun _ => 0)) Y1 H) (hT2 : TI D vwCl (tysOf c0) (RTg ν2) Y2 H) (hν : nuOK ν2) (hS : va_S (fun q : Nat => s.heap.size ≤ q) s.heap H locs) (hl : lv_has ls 4 [(3, .int i), (2, .ref o2), (1, .ref o1), (0, .ref b)]) (nxt : ∀ (ν2 : Nat → Nat) (H : Heap) (locs : List Loc), TI D vwCl (tysOf c0) (RTg (fun _ => 0)) Y1 H → TI D vwCl (tysOf c0) (RTg ν2) Y2 H → nuOK ν2 → va_S (fun q : Nat => s.heap.size ≤ q) s.heap H locs → W p l e room_1 s m #[Value.ref b] below meth c H locs 188 7230 (lw_Z below #[Value.ref b] s) (F0 m 2019 ls [])) : W p l e room_1 s m #[Value.ref b] below meth c H locs 188 7230 (lw_Z below #[Value.ref b] s) (F0 m 522 ls []) := by
  have hbA : ¬ (fun q : Nat => s.heap.size ≤ q) b := Nat.not_le.mpr hbl
  refine lv_aload_n hx hb dL_law_522 rfl (lv_at hl 2 rfl) ?_
  refine lv_aload_n hx hb dL_law_523 rfl (lv_at hl 3 rfl) ?_
  refine lv_iload_n hx hb dL_law_524 rfl (lv_at hl 0 rfl) ?_
  refine lv_iconst (v := 1) hx hb dL_law_525 (by decide) ?_
  refine lv_iadd hx hb dL_law_526 ?_
  refine va_sld (i := i + 1) hx hb hX hbl hbA hS (law_in hi hiL (d := 1) (by decide) (by decide) (by decide)) dL_law_527 ?_
  refine lv_aload_n hx hb dL_law_528 rfl (lv_at hl 3 rfl) ?_
  refine lv_iload_n hx hb dL_law_529 rfl (lv_at hl 0 rfl) ?_
  refine lv_iconst (v := 2) hx hb dL_law_530 (by decide) ?_
  refine lv_iadd hx hb dL_law_531 ?_
  refine va_sld (i := i + 2) hx hb hX hbl hbA hS (law_in hi hiL (d := 2) (by decide) (by decide) (by decide)) dL_law_532 ?_
  refine lv_aload_n hx hb dL_law_533 rfl (lv_at hl 3 rfl) ?_
  refine lv_iload_n hx hb dL_law_534 rfl (lv_at hl 0 rfl) ?_
  refine lv_iconst (v := 3) hx hb dL_law_535 (by decide) ?_
  refine lv_iadd hx hb dL_law_536 ?_
  refine va_sld (i := i + 3) hx hb hX hbl hbA hS (law_in hi hiL (d := 3) (by decide) (by decide) (by decide)) dL_law_537 ?_
  refine ti_calli (va_runV (As := [.int (xs (i + 1).toNatClampNeg), .int (xs (i + 2).toNatClampNeg), .int (xs (i + 3).toNatClampNeg)]) (rest := []) ⟨hx, hb, hml, hown, hts⟩ (t_X9_sight l hT1 hy1 (iv_top _) (iv_top _) (iv_top _)) (cwV 3 hts (good_V kw_557 kw_558 kw_559 kw_2 kw_560) rfl rfl rfl (by decide +kernel) ⟨by decide, by decide⟩) (ti_preV hK hT1 hy1 rfl rfl) rfl rfl hl.1 rfl (lv_room (Nat.le_of_ble_eq_true rfl)) dL_law_538 ⟨by decide, by decide⟩) hS (fun q h => hA1 q (pW_pA h)) (fun r1 H locs hB hS _ hk => ?_)
  have hT1 := hB
  have hT2 := TI.frameW hT2 hdis hk
  refine lv_pop hx hb dL_law_541 rfl ?_
  refine lv_aload_n hx hb dL_law_542 rfl (lv_at hl 1 rfl) ?_
  refine lv_aload_n hx hb dL_law_543 rfl (lv_at hl 3 rfl) ?_
  refine lv_iload_n hx hb dL_law_544 rfl (lv_at hl 0 rfl) ?_
  refine lv_iconst (v := 1) hx hb dL_law_545 (by decide) ?_
  refine lv_iadd hx hb dL_law_546 ?_
  refine va_sld (i := i + 1) hx hb hX hbl hbA hS (law_in hi hiL (d := 1) (by decide) (by decide) (by decide)) dL_law_547 ?_
  refine lv_aload_n hx hb dL_law_548 rfl (lv_at hl 3 rfl) ?_
  refine lv_iload_n hx hb dL_law_549 rfl (lv_at hl 0 rfl) ?_
  refine lv_iconst (v := 2) hx hb dL_law_550 (by decide) ?_
  refine lv_iadd hx hb dL_law_551 ?_
  refine va_sld (i := i + 2) hx hb hX hbl hbA hS (law_in hi hiL (d := 2) (by decide) (by decide) (by decide)) dL_law_552 ?_
  refine lv_aload_n hx hb dL_law_553 rfl (lv_at hl 3 rfl) ?_
  refine lv_iload_n hx hb dL_law_554 rfl (lv_at hl 0 rfl) ?_
  refine lv_iconst (v := 3) hx hb dL_law_555 (by decide) ?_
  refine lv_iadd hx hb dL_law_556 ?_
  refine va_sld (i := i + 3) hx hb hX hbl hbA hS (law_in hi hiL (d := 3) (by decide) (by decide) (by decide)) dL_law_557 ?_
  refine ti_calli (va_runV (As := [.int (xs (i + 1).toNatClampNeg), .int (xs (i + 2).toNatClampNeg), .int (xs (i + 3).toNatClampNeg)]) (rest := []) ⟨hx, hb, hml, hown, hts⟩ (t_X10_sight l hT2 hy2 (iv_top _) (iv_top _) (iv_top _) hU) (cwV 3 hts (good_V kw_562 kw_563 kw_564 kw_5 kw_565) rfl rfl rfl (by decide +kernel) ⟨by decide, by decide⟩) (ti_preV hK hT2 hy2 rfl rfl) rfl rfl hl.1 rfl (lv_room (Nat.le_of_ble_eq_true rfl)) dL_law_558 ⟨by decide, by decide⟩) hS (fun q h => hA2 q (pW_pA h)) (fun r2 H locs hB hS _ hk => ?_)
  obtain ⟨hT2, ir2⟩ := hB
  have hT1 := TI.frameW hT1 (fun q h1 h2 => hdis q h2 h1) hk
  refine lv_pop hx hb dL_law_561 rfl ?_
  refine lv_goto (tgt := 2019) hx hb dL_law_562 (by decide) ?_
  exact nxt ν2 H locs hT1 hT2 hν hS
set_option maxHeartbeats 8000000 in
set_option maxRecDepth 100000 in
theorem law_c9 {p : Program} {e : Env} {s : State} {m : MethodId} {below : List Frame} {meth : Method} {c : Code} (l : Launch) {b L : Nat} {xs : Nat → Int32} (hL : L ≤ 3072) (hx : p.tables.exec = Jvm.exec) (hb : c.code = code) (hr : meth.sig.returnType = ret) (hml : c.maxLocals = 4) (hown : s.vm.findClass RL = some m.cls) (hts : ∀ w ∈ wq, w.before #[Value.ref b] s = true) (hX : va_X b L xs s s.heap) (hbl : b < s.heap.size) (hlocks : meth.locks = false) {D : va_G} {c0 : Nat → ClassId} {Y1 Y2 : Nat → Option Nat} {o1 o2 : Nat} {adK adV : Nat → Nat} (hK : va_K D vwCl (tysOf c0) s) (hSO : SO (fun q : Nat => s.heap.size ≤ q) adK adV s s.heap) (hdis : ∀ q, pA Y1 q → pA Y2 q → False) (hU : uq Y2) (hy1 : Y1 o1 = some 9) (hA1 : ∀ q, pA Y1 q → s.heap.size ≤ q) (hy2 : Y2 o2 = some 10) (hA2 : ∀ q, pA Y2 q → s.heap.size ≤ q) {ν2 : Nat → Nat} {i : Int32} {H : Heap} {locs : List Loc} {ls : Array Slot} (hi : iv i 0 3066) (hiL : i.toInt + 6 ≤ (L : Int)) (hT1 : TI D vwCl (tysOf c0) (RTg (fun _ => 0)) Y1 H) (hT2 : TI D vwCl (tysOf c0) (RTg ν2) Y2 H) (hν : nuOK ν2) (hS : va_S (fun q : Nat => s.heap.size ≤ q) s.heap H locs) (hl : lv_has ls 4 [(3, .int i), (2, .ref o2), (1, .ref o1), (0, .ref b)]) (nxt : ∀ (ν2 : Nat → Nat) (H : Heap) (locs : List Loc), TI D vwCl (tysOf c0) (RTg (fun _ => 0)) Y1 H → TI D vwCl (tysOf c0) (RTg ν2) Y2 H → nuOK ν2 → va_S (fun q : Nat => s.heap.size ≤ q) s.heap H locs → W p l e room_1 s m #[Value.ref b] below meth c H locs 188 7230 (lw_Z below #[Value.ref b] s) (F0 m 2019 ls [])) : W p l e room_1 s m #[Value.ref b] below meth c H locs 188 7230 (lw_Z below #[Value.ref b] s) (F0 m 565 ls []) := by
  have hbA : ¬ (fun q : Nat => s.heap.size ≤ q) b := Nat.not_le.mpr hbl
  refine lv_aload_n hx hb dL_law_565 rfl (lv_at hl 2 rfl) ?_
  refine ti_calli (va_runV (As := []) (rest := []) ⟨hx, hb, hml, hown, hts⟩ (t_X9_tops l hT1 hy1 ) (cwV 0 hts (good_V kw_566 kw_567 kw_568 kw_2 kw_569) rfl rfl rfl (by decide +kernel) ⟨by decide, by decide⟩) (ti_preV hK hT1 hy1 rfl rfl) rfl rfl hl.1 rfl (lv_room (Nat.le_of_ble_eq_true rfl)) dL_law_566 ⟨by decide, by decide⟩) hS (fun q h => hA1 q (pW_pA h)) (fun r1 H locs hB hS _ hk => ?_)
  have hT1 := hB
  have hT2 := TI.frameW hT2 hdis hk
  refine lv_pop hx hb dL_law_569 rfl ?_
  refine lv_aload_n hx hb dL_law_570 rfl (lv_at hl 1 rfl) ?_
  refine ti_calli (va_runV (As := []) (rest := []) ⟨hx, hb, hml, hown, hts⟩ (t_X10_tops l hT2 hy2 hU) (cwV 0 hts (good_V kw_601 kw_602 kw_603 kw_5 kw_604) rfl rfl rfl (by decide +kernel) ⟨by decide, by decide⟩) (ti_preV hK hT2 hy2 rfl rfl) rfl rfl hl.1 rfl (lv_room (Nat.le_of_ble_eq_true rfl)) dL_law_571 ⟨by decide, by decide⟩) hS (fun q h => hA2 q (pW_pA h)) (fun r2 H1 locs hB hS _ hk => ?_)
  have hH := hB
  rw [hH] at hS ⊢
  refine lv_pop hx hb dL_law_574 rfl ?_
  refine lv_goto (tgt := 2019) hx hb dL_law_575 (by decide) ?_
  exact nxt ν2 H locs hT1 hT2 hν hS
set_option maxHeartbeats 8000000 in
set_option maxRecDepth 100000 in
theorem law_c10 {p : Program} {e : Env} {s : State} {m : MethodId} {below : List Frame} {meth : Method} {c : Code} (l : Launch) {b L : Nat} {xs : Nat → Int32} (hL : L ≤ 3072) (hx : p.tables.exec = Jvm.exec) (hb : c.code = code) (hr : meth.sig.returnType = ret) (hml : c.maxLocals = 4) (hown : s.vm.findClass RL = some m.cls) (hts : ∀ w ∈ wq, w.before #[Value.ref b] s = true) (hX : va_X b L xs s s.heap) (hbl : b < s.heap.size) (hlocks : meth.locks = false) {D : va_G} {c0 : Nat → ClassId} {Y1 Y2 : Nat → Option Nat} {o1 o2 : Nat} {adK adV : Nat → Nat} (hK : va_K D vwCl (tysOf c0) s) (hSO : SO (fun q : Nat => s.heap.size ≤ q) adK adV s s.heap) (hdis : ∀ q, pA Y1 q → pA Y2 q → False) (hU : uq Y2) (hy1 : Y1 o1 = some 9) (hA1 : ∀ q, pA Y1 q → s.heap.size ≤ q) (hy2 : Y2 o2 = some 10) (hA2 : ∀ q, pA Y2 q → s.heap.size ≤ q) {ν2 : Nat → Nat} {i : Int32} {H : Heap} {locs : List Loc} {ls : Array Slot} (hi : iv i 0 3066) (hiL : i.toInt + 6 ≤ (L : Int)) (hT1 : TI D vwCl (tysOf c0) (RTg (fun _ => 0)) Y1 H) (hT2 : TI D vwCl (tysOf c0) (RTg ν2) Y2 H) (hν : nuOK ν2) (hS : va_S (fun q : Nat => s.heap.size ≤ q) s.heap H locs) (hl : lv_has ls 4 [(3, .int i), (2, .ref o2), (1, .ref o1), (0, .ref b)]) (nxt : ∀ (ν2 : Nat → Nat) (H : Heap) (locs : List Loc), TI D vwCl (tysOf c0) (RTg (fun _ => 0)) Y1 H → TI D vwCl (tysOf c0) (RTg ν2) Y2 H → nuOK ν2 → va_S (fun q : Nat => s.heap.size ≤ q) s.heap H locs → W p l e room_1 s m #[Value.ref b] below meth c H locs 188 7230 (lw_Z below #[Value.ref b] s) (F0 m 2019 ls [])) : W p l e room_1 s m #[Value.ref b] below meth c H locs 188 7230 (lw_Z below #[Value.ref b] s) (F0 m 578 ls []) := by
  have hbA : ¬ (fun q : Nat => s.heap.size ≤ q) b := Nat.not_le.mpr hbl
  refine lv_aload_n hx hb dL_law_578 rfl (lv_at hl 2 rfl) ?_
  refine ti_calli (va_runV (As := []) (rest := []) ⟨hx, hb, hml, hown, hts⟩ (t_X9_next l hT1 hy1 ) (cwV 0 hts (good_V kw_620 kw_621 kw_622 kw_2 kw_623) rfl rfl rfl (by decide +kernel) ⟨by decide, by decide⟩) (ti_preV hK hT1 hy1 rfl rfl) rfl rfl hl.1 rfl (lv_room (Nat.le_of_ble_eq_true rfl)) dL_law_579 ⟨by decide, by decide⟩) hS (fun q h => hA1 q (pW_pA h)) (fun r1 H locs hB hS _ hk => ?_)
  have hT1 := hB
  have hT2 := TI.frameW hT2 hdis hk
  refine lv_pop hx hb dL_law_582 rfl ?_
  refine lv_aload_n hx hb dL_law_583 rfl (lv_at hl 1 rfl) ?_
  refine ti_calli (va_runV (As := []) (rest := []) ⟨hx, hb, hml, hown, hts⟩ (t_X10_next l hT2 hy2 hU) (cwV 0 hts (good_V kw_625 kw_626 kw_627 kw_5 kw_628) rfl rfl rfl (by decide +kernel) ⟨by decide, by decide⟩) (ti_preV hK hT2 hy2 rfl rfl) rfl rfl hl.1 rfl (lv_room (Nat.le_of_ble_eq_true rfl)) dL_law_584 ⟨by decide, by decide⟩) hS (fun q h => hA2 q (pW_pA h)) (fun r2 H1 locs hB hS _ hk => ?_)
  obtain ⟨hH, ir2⟩ := hB
  rw [hH] at hS ⊢
  refine lv_pop hx hb dL_law_587 rfl ?_
  refine lv_goto (tgt := 2019) hx hb dL_law_588 (by decide) ?_
  exact nxt ν2 H locs hT1 hT2 hν hS
