set_option maxHeartbeats 8000000 in
set_option maxRecDepth 100000 in
theorem law_fin {p : Program} {e : Env} {s : State} {m : MethodId} {below : List Frame} {meth : Method} {c : Code} (l : Launch) {b L : Nat} {xs : Nat → Int32} (hL : L ≤ 6) (hx : p.tables.exec = Jvm.exec) (hb : c.code = code) (hr : meth.sig.returnType = ret) (hml : c.maxLocals = 4) (hown : s.vm.findClass RL = some m.cls) (hts : ∀ w ∈ wq, w.before #[Value.ref b] s = true) (hX : va_X b L xs s s.heap) (hbl : b < s.heap.size) (hlocks : meth.locks = false) {H : Heap} {locs : List Loc} {ls : Array Slot} (hS : va_S (fun q : Nat => s.heap.size ≤ q) s.heap H locs) : W p l e room_1 s m #[Value.ref b] below meth c H locs 188 7230 (lw_Z below #[Value.ref b] s) (F0 m 2025 ls []) := by
  refine lv_iconst (v := 1) hx hb dL_law_2025 (by decide) ?_
  refine va_forget (fun q hq => hS.2.2 q hq) ?_
  refine W.widen (k := 600000) (n := 7302250) (by decide) (by decide) ?_
  exact lw_ret hx hb hr hlocks dL_law_2026
set_option maxHeartbeats 8000000 in
set_option maxRecDepth 100000 in
theorem law_nxt {p : Program} {e : Env} {s : State} {m : MethodId} {below : List Frame} {meth : Method} {c : Code} (l : Launch) {b L : Nat} {xs : Nat → Int32} (hL : L ≤ 6) (hx : p.tables.exec = Jvm.exec) (hb : c.code = code) (hr : meth.sig.returnType = ret) (hml : c.maxLocals = 4) (hown : s.vm.findClass RL = some m.cls) (hts : ∀ w ∈ wq, w.before #[Value.ref b] s = true) (hX : va_X b L xs s s.heap) (hbl : b < s.heap.size) (hlocks : meth.locks = false) (hL6 : L = 6) {H : Heap} {locs : List Loc} {ls : Array Slot} {o1 o2 : Nat} (hS : va_S (fun q : Nat => s.heap.size ≤ q) s.heap H locs) (hl : lv_has ls 4 [(3, .int 0), (2, .ref o2), (1, .ref o1), (0, .ref b)]) : W p l e room_1 s m #[Value.ref b] below meth c H locs 188 7230 (lw_Z below #[Value.ref b] s) (F0 m 2019 ls []) := by
  have hbA : ¬ (fun q : Nat => s.heap.size ≤ q) b := Nat.not_le.mpr hbl
  refine lv_iinc (v := 6) (lv' := [(3, .int 6), (2, .ref o2), (1, .ref o1), (0, .ref b)]) hx hb dL_law_2019 hl (k := 0) rfl (by decide) (by decide) rfl (fun ls hl => ?_)
  refine lv_goto (tgt := 18) hx hb dL_law_2022 (by decide) ?_
  refine lv_iload_n hx hb dL_law_18 rfl (lv_at hl 0 rfl) ?_
  refine lv_aload_n hx hb dL_law_19 rfl (lv_at hl 3 rfl) ?_
  refine va_slen hx hb hX hbl hbA hS dL_law_20 ?_
  refine lv_bipush (v := 6) hx hb dL_law_21 (by decide) ?_
  refine lv_isub hx hb dL_law_23 ?_
  subst hL6
  refine lv_icmp_gt (tgt := 2025) hx hb dL_law_24 (by decide) (fun _ => ?_) (fun h => absurd (by decide) h)
  exact law_fin l hL hx hb hr hml hown hts hX hbl hlocks hS
set_option maxHeartbeats 8000000 in
set_option maxRecDepth 100000 in
theorem law_c0 {p : Program} {e : Env} {s : State} {m : MethodId} {below : List Frame} {meth : Method} {c : Code} (l : Launch) {b L : Nat} {xs : Nat → Int32} (hL : L ≤ 6) (hx : p.tables.exec = Jvm.exec) (hb : c.code = code) (hr : meth.sig.returnType = ret) (hml : c.maxLocals = 4) (hown : s.vm.findClass RL = some m.cls) (hts : ∀ w ∈ wq, w.before #[Value.ref b] s = true) (hX : va_X b L xs s s.heap) (hbl : b < s.heap.size) (hlocks : meth.locks = false) (hL6 : L = 6) {D : va_G} {c0 : Nat → ClassId} {Y1 Y2 : Nat → Option Nat} {o1 o2 : Nat} {H : Heap} {locs : List Loc} {ls : Array Slot} (hK : va_K D vwCl (tysOf c0) s) (hN : nwA s) (hdis : ∀ q, pA Y1 q → pA Y2 q → False) (hT1 : TI D vwCl (tysOf c0) (RT1 false) Y1 H) (hy1 : Y1 o1 = some 9) (hA1 : ∀ q, pA Y1 q → s.heap.size ≤ q) (hT2 : TI D vwCl (tysOf c0) (RT1 false) Y2 H) (hy2 : Y2 o2 = some 10) (hA2 : ∀ q, pA Y2 q → s.heap.size ≤ q) (hS : va_S (fun q : Nat => s.heap.size ≤ q) s.heap H locs) (hl : lv_has ls 4 [(3, .int 0), (2, .ref o2), (1, .ref o1), (0, .ref b)]) : W p l e room_1 s m #[Value.ref b] below meth c H locs 188 7230 (lw_Z below #[Value.ref b] s) (F0 m 268 ls []) := by
  have hbA : ¬ (fun q : Nat => s.heap.size ≤ q) b := Nat.not_le.mpr hbl
  have hin : ∀ {i : Int32} {k : Int}, iv i k k → (decide (0 ≤ k) && decide (k < 6)) = true → vp_in i L := fun h1 h2 => by rw [hL6]; exact iv_in h1 (by simpa using h2)
  refine lv_aload_n hx hb dL_law_268 rfl (lv_at hl 2 rfl) ?_
  refine lv_aload_n hx hb dL_law_269 rfl (lv_at hl 3 rfl) ?_
  refine lv_iload_n hx hb dL_law_270 rfl (lv_at hl 0 rfl) ?_
  refine lv_iconst (v := 1) hx hb dL_law_271 (by decide) ?_
  refine lv_iadd hx hb dL_law_272 ?_
  refine lv_topi (fun w9 e9 => ?_)
  obtain rfl : w9 = 1 := e9.trans (by decide)
  refine va_sld hx hb hX hbl hbA hS (hin (iv_c (x := (1 : Int32)) (k := 1) (by decide)) (by decide)) dL_law_273 ?_
  refine lv_aload_n hx hb dL_law_274 rfl (lv_at hl 3 rfl) ?_
  refine lv_iload_n hx hb dL_law_275 rfl (lv_at hl 0 rfl) ?_
  refine lv_iconst (v := 2) hx hb dL_law_276 (by decide) ?_
  refine lv_iadd hx hb dL_law_277 ?_
  refine lv_topi (fun w9 e9 => ?_)
  obtain rfl : w9 = 2 := e9.trans (by decide)
  refine va_sld hx hb hX hbl hbA hS (hin (iv_c (x := (2 : Int32)) (k := 2) (by decide)) (by decide)) dL_law_278 ?_
  refine lv_aload_n hx hb dL_law_279 rfl (lv_at hl 3 rfl) ?_
  refine lv_iload_n hx hb dL_law_280 rfl (lv_at hl 0 rfl) ?_
  refine lv_iconst (v := 3) hx hb dL_law_281 (by decide) ?_
  refine lv_iadd hx hb dL_law_282 ?_
  refine lv_topi (fun w9 e9 => ?_)
  obtain rfl : w9 = 3 := e9.trans (by decide)
  refine va_sld hx hb hX hbl hbA hS (hin (iv_c (x := (3 : Int32)) (k := 3) (by decide)) (by decide)) dL_law_283 ?_
  refine lv_aload_n hx hb dL_law_284 rfl (lv_at hl 3 rfl) ?_
  refine lv_iload_n hx hb dL_law_285 rfl (lv_at hl 0 rfl) ?_
  refine lv_iconst (v := 4) hx hb dL_law_286 (by decide) ?_
  refine lv_iadd hx hb dL_law_287 ?_
  refine lv_topi (fun w9 e9 => ?_)
  obtain rfl : w9 = 4 := e9.trans (by decide)
  refine va_sld hx hb hX hbl hbA hS (hin (iv_c (x := (4 : Int32)) (k := 4) (by decide)) (by decide)) dL_law_288 ?_
  refine lv_aload_n hx hb dL_law_289 rfl (lv_at hl 3 rfl) ?_
  refine lv_iload_n hx hb dL_law_290 rfl (lv_at hl 0 rfl) ?_
  refine lv_iconst (v := 5) hx hb dL_law_291 (by decide) ?_
  refine lv_iadd hx hb dL_law_292 ?_
  refine lv_topi (fun w9 e9 => ?_)
  obtain rfl : w9 = 5 := e9.trans (by decide)
  refine va_sld hx hb hX hbl hbA hS (hin (iv_c (x := (5 : Int32)) (k := 5) (by decide)) (by decide)) dL_law_293 ?_
  obtain ⟨h1, h2, z1, z2, z3, z4, z5, z6, z7, z8, z9, z10, zz2, zz3, zz4, zz5, zz6, zz7, zz8, zz9, zz10, zz11, g0, fP, fD⟩ := ti_feed hT1 hy1
  have hF : ∀ q, va_A [(o1, .inr (9, [.ref h1, z1, z2, z3, z4, z5, z6, z7, z8, z9, z10])), (h1, .inr (6, [.ref h2, .int 0, zz2, zz3, zz4, zz5, zz6, zz7, zz8, zz9, zz10, zz11])), (h2, .inl (c0 1, 1600, .inl g0))] H.size q → s.heap.size ≤ q := by
    rintro q (⟨k, e, h⟩ | h)
    · exact hA1 q (fD.2 k _ h)
    · exact Nat.le_trans hS.1 h
  refine nq_calli (va_runV (As := [.int (xs (1 : Int32).toNatClampNeg), .int (xs (2 : Int32).toNatClampNeg), .int (xs (3 : Int32).toNatClampNeg), .int (xs (4 : Int32).toNatClampNeg), .int (xs (5 : Int32).toNatClampNeg)]) (rest := []) ⟨hx, hb, hml, hown, hts⟩ (n_X9_feed l fP (fD.weaken (fun _ _ _ _ => trivial))) (cwV 5 hts (good_V kw_158 kw_159 kw_160 kw_2 kw_161) rfl rfl rfl (by decide +kernel) ⟨by decide, by decide⟩) (np_preV hK hN fP rfl (q0 := 0) rfl) rfl rfl hl.1 rfl (lv_room (Nat.le_of_ble_eq_true rfl)) dL_law_294 ⟨by decide, by decide⟩) hS hF (fun r1 H1 locs hB hS hk => ?_)
  have hT2 : TI D vwCl (tysOf c0) (RT1 false) Y2 H1 := fun a r ha => (hT2 a r ha).kept (hk a (ti_lt (hT2 a r ha)) (by
      rintro (⟨k, e, h⟩ | h)
      · exact hdis a (fD.2 k _ h) ⟨r, ha⟩
      · exact absurd (ti_lt (hT2 a r ha)) (Nat.not_lt.mpr h)))
  subst hB
  generalize H1 = H at hT2 hS ⊢
  have i1 : (20 : Int32).toInt = 20 := by decide
  refine lv_aload_n hx hb dL_law_297 rfl (lv_at hl 1 rfl) ?_
  refine lv_aload_n hx hb dL_law_298 rfl (lv_at hl 3 rfl) ?_
  refine lv_iload_n hx hb dL_law_299 rfl (lv_at hl 0 rfl) ?_
  refine lv_iconst (v := 1) hx hb dL_law_300 (by decide) ?_
  refine lv_iadd hx hb dL_law_301 ?_
  refine lv_topi (fun w9 e9 => ?_)
  obtain rfl : w9 = 1 := e9.trans (by decide)
  refine va_sld hx hb hX hbl hbA hS (hin (iv_c (x := (1 : Int32)) (k := 1) (by decide)) (by decide)) dL_law_302 ?_
  refine lv_aload_n hx hb dL_law_303 rfl (lv_at hl 3 rfl) ?_
  refine lv_iload_n hx hb dL_law_304 rfl (lv_at hl 0 rfl) ?_
  refine lv_iconst (v := 2) hx hb dL_law_305 (by decide) ?_
  refine lv_iadd hx hb dL_law_306 ?_
  refine lv_topi (fun w9 e9 => ?_)
  obtain rfl : w9 = 2 := e9.trans (by decide)
  refine va_sld hx hb hX hbl hbA hS (hin (iv_c (x := (2 : Int32)) (k := 2) (by decide)) (by decide)) dL_law_307 ?_
  refine lv_aload_n hx hb dL_law_308 rfl (lv_at hl 3 rfl) ?_
  refine lv_iload_n hx hb dL_law_309 rfl (lv_at hl 0 rfl) ?_
  refine lv_iconst (v := 3) hx hb dL_law_310 (by decide) ?_
  refine lv_iadd hx hb dL_law_311 ?_
  refine lv_topi (fun w9 e9 => ?_)
  obtain rfl : w9 = 3 := e9.trans (by decide)
  refine va_sld hx hb hX hbl hbA hS (hin (iv_c (x := (3 : Int32)) (k := 3) (by decide)) (by decide)) dL_law_312 ?_
  refine lv_aload_n hx hb dL_law_313 rfl (lv_at hl 3 rfl) ?_
  refine lv_iload_n hx hb dL_law_314 rfl (lv_at hl 0 rfl) ?_
  refine lv_iconst (v := 4) hx hb dL_law_315 (by decide) ?_
  refine lv_iadd hx hb dL_law_316 ?_
  refine lv_topi (fun w9 e9 => ?_)
  obtain rfl : w9 = 4 := e9.trans (by decide)
  refine va_sld hx hb hX hbl hbA hS (hin (iv_c (x := (4 : Int32)) (k := 4) (by decide)) (by decide)) dL_law_317 ?_
  refine lv_aload_n hx hb dL_law_318 rfl (lv_at hl 3 rfl) ?_
  refine lv_iload_n hx hb dL_law_319 rfl (lv_at hl 0 rfl) ?_
  refine lv_iconst (v := 5) hx hb dL_law_320 (by decide) ?_
  refine lv_iadd hx hb dL_law_321 ?_
  refine lv_topi (fun w9 e9 => ?_)
  obtain rfl : w9 = 5 := e9.trans (by decide)
  refine va_sld hx hb hX hbl hbA hS (hin (iv_c (x := (5 : Int32)) (k := 5) (by decide)) (by decide)) dL_law_322 ?_
  refine ti_calli (va_runV (As := [.int (xs (1 : Int32).toNatClampNeg), .int (xs (2 : Int32).toNatClampNeg), .int (xs (3 : Int32).toNatClampNeg), .int (xs (4 : Int32).toNatClampNeg), .int (xs (5 : Int32).toNatClampNeg)]) (rest := [.int 20]) ⟨hx, hb, hml, hown, hts⟩ (t_X10_feed l hT2 hy2 (iv_top _) (iv_top _) (iv_top _) (iv_top _) (iv_top _)) (cwV 5 hts (good_V kw_168 kw_169 kw_170 kw_5 kw_171) rfl rfl rfl (by decide +kernel) ⟨by decide, by decide⟩) (ti_preV hK hT2 hy2 rfl rfl) rfl rfl hl.1 rfl (lv_room (Nat.le_of_ble_eq_true rfl)) dL_law_323 ⟨by decide, by decide⟩) hS (fun q h => hA2 q h) (fun r2 H1 locs hB hS _ hk => ?_)
  have ir2 := hB
  generalize H1 = H at hS ⊢
  refine lv_icmp_eq (tgt := 2019) hx hb dL_law_326 (by decide) (fun _ => ?_) (fun h => ?_)
  · exact law_nxt l hL hx hb hr hml hown hts hX hbl hlocks hL6 hS hl
  · exact absurd (Int32.toInt_inj.mp (by have := ir2.1; have := ir2.2; omega)) h
set_option maxHeartbeats 8000000 in
set_option maxRecDepth 100000 in
theorem law_c1 {p : Program} {e : Env} {s : State} {m : MethodId} {below : List Frame} {meth : Method} {c : Code} (l : Launch) {b L : Nat} {xs : Nat → Int32} (hL : L ≤ 6) (hx : p.tables.exec = Jvm.exec) (hb : c.code = code) (hr : meth.sig.returnType = ret) (hml : c.maxLocals = 4) (hown : s.vm.findClass RL = some m.cls) (hts : ∀ w ∈ wq, w.before #[Value.ref b] s = true) (hX : va_X b L xs s s.heap) (hbl : b < s.heap.size) (hlocks : meth.locks = false) (hL6 : L = 6) {D : va_G} {c0 : Nat → ClassId} {Y1 Y2 : Nat → Option Nat} {o1 o2 : Nat} {H : Heap} {locs : List Loc} {ls : Array Slot} (hK : va_K D vwCl (tysOf c0) s) (hN : nwA s) (hdis : ∀ q, pA Y1 q → pA Y2 q → False) (hT1 : TI D vwCl (tysOf c0) (RT1 false) Y1 H) (hy1 : Y1 o1 = some 9) (hA1 : ∀ q, pA Y1 q → s.heap.size ≤ q) (hT2 : TI D vwCl (tysOf c0) (RT1 false) Y2 H) (hy2 : Y2 o2 = some 10) (hA2 : ∀ q, pA Y2 q → s.heap.size ≤ q) (hS : va_S (fun q : Nat => s.heap.size ≤ q) s.heap H locs) (hl : lv_has ls 4 [(3, .int 0), (2, .ref o2), (1, .ref o1), (0, .ref b)]) : W p l e room_1 s m #[Value.ref b] below meth c H locs 188 7230 (lw_Z below #[Value.ref b] s) (F0 m 331 ls []) := by
  have hbA : ¬ (fun q : Nat => s.heap.size ≤ q) b := Nat.not_le.mpr hbl
  have hin : ∀ {i : Int32} {k : Int}, iv i k k → (decide (0 ≤ k) && decide (k < 6)) = true → vp_in i L := fun h1 h2 => by rw [hL6]; exact iv_in h1 (by simpa using h2)
  refine lv_aload_n hx hb dL_law_331 rfl (lv_at hl 2 rfl) ?_
  refine lv_aload_n hx hb dL_law_332 rfl (lv_at hl 3 rfl) ?_
  refine lv_iload_n hx hb dL_law_333 rfl (lv_at hl 0 rfl) ?_
  refine lv_iconst (v := 1) hx hb dL_law_334 (by decide) ?_
  refine lv_iadd hx hb dL_law_335 ?_
  refine lv_topi (fun w9 e9 => ?_)
  obtain rfl : w9 = 1 := e9.trans (by decide)
  refine va_sld hx hb hX hbl hbA hS (hin (iv_c (x := (1 : Int32)) (k := 1) (by decide)) (by decide)) dL_law_336 ?_
  refine ti_calli (va_runV (As := [.int (xs (1 : Int32).toNatClampNeg)]) (rest := []) ⟨hx, hb, hml, hown, hts⟩ (t_X9_end l hT1 hy1 (iv_top _)) (cwV 1 hts (good_V kw_173 kw_174 kw_175 kw_2 kw_176) rfl rfl rfl (by decide +kernel) ⟨by decide, by decide⟩) (ti_preV hK hT1 hy1 rfl rfl) rfl rfl hl.1 rfl (lv_room (Nat.le_of_ble_eq_true rfl)) dL_law_337 ⟨by decide, by decide⟩) hS (fun q h => hA1 q h) (fun r1 H1 locs hB hS _ hk => ?_)
  obtain ⟨_, pr1⟩ := hB
  have hT2 := TI.frame hT2 hdis hk
  generalize H1 = H at hT2 hS ⊢
  refine lv_aload_n hx hb dL_law_340 rfl (lv_at hl 1 rfl) ?_
  refine lv_aload_n hx hb dL_law_341 rfl (lv_at hl 3 rfl) ?_
  refine lv_iload_n hx hb dL_law_342 rfl (lv_at hl 0 rfl) ?_
  refine lv_iconst (v := 1) hx hb dL_law_343 (by decide) ?_
  refine lv_iadd hx hb dL_law_344 ?_
  refine lv_topi (fun w9 e9 => ?_)
  obtain rfl : w9 = 1 := e9.trans (by decide)
  refine va_sld hx hb hX hbl hbA hS (hin (iv_c (x := (1 : Int32)) (k := 1) (by decide)) (by decide)) dL_law_345 ?_
  refine ti_calli (va_runV (As := [.int (xs (1 : Int32).toNatClampNeg)]) (rest := [.int r1]) ⟨hx, hb, hml, hown, hts⟩ (t_X10_end l hT2 hy2 (iv_top _)) (cwV 1 hts (good_V kw_177 kw_178 kw_179 kw_5 kw_180) rfl rfl rfl (by decide +kernel) ⟨by decide, by decide⟩) (ti_preV hK hT2 hy2 rfl rfl) rfl rfl hl.1 rfl (lv_room (Nat.le_of_ble_eq_true rfl)) dL_law_346 ⟨by decide, by decide⟩) hS (fun q h => hA2 q h) (fun r2 H1 locs hB hS _ hk => ?_)
  obtain ⟨_, pr2⟩ := hB
  generalize H1 = H at hS ⊢
  refine lv_icmp_eq (tgt := 2019) hx hb dL_law_349 (by decide) (fun _ => ?_) (fun h => ?_)
  · exact law_nxt l hL hx hb hr hml hown hts hX hbl hlocks hL6 hS hl
  · exact absurd (Int32.toInt_inj.mp (by omega)) h
set_option maxHeartbeats 8000000 in
set_option maxRecDepth 100000 in
theorem law_c2 {p : Program} {e : Env} {s : State} {m : MethodId} {below : List Frame} {meth : Method} {c : Code} (l : Launch) {b L : Nat} {xs : Nat → Int32} (hL : L ≤ 6) (hx : p.tables.exec = Jvm.exec) (hb : c.code = code) (hr : meth.sig.returnType = ret) (hml : c.maxLocals = 4) (hown : s.vm.findClass RL = some m.cls) (hts : ∀ w ∈ wq, w.before #[Value.ref b] s = true) (hX : va_X b L xs s s.heap) (hbl : b < s.heap.size) (hlocks : meth.locks = false) (hL6 : L = 6) {D : va_G} {c0 : Nat → ClassId} {Y1 Y2 : Nat → Option Nat} {o1 o2 : Nat} {H : Heap} {locs : List Loc} {ls : Array Slot} (hK : va_K D vwCl (tysOf c0) s) (hN : nwA s) (hdis : ∀ q, pA Y1 q → pA Y2 q → False) (hT1 : TI D vwCl (tysOf c0) (RT1 false) Y1 H) (hy1 : Y1 o1 = some 9) (hA1 : ∀ q, pA Y1 q → s.heap.size ≤ q) (hT2 : TI D vwCl (tysOf c0) (RT1 false) Y2 H) (hy2 : Y2 o2 = some 10) (hA2 : ∀ q, pA Y2 q → s.heap.size ≤ q) (hS : va_S (fun q : Nat => s.heap.size ≤ q) s.heap H locs) (hl : lv_has ls 4 [(3, .int 0), (2, .ref o2), (1, .ref o1), (0, .ref b)]) : W p l e room_1 s m #[Value.ref b] below meth c H locs 188 7230 (lw_Z below #[Value.ref b] s) (F0 m 354 ls []) := by
  have hbA : ¬ (fun q : Nat => s.heap.size ≤ q) b := Nat.not_le.mpr hbl
  have hin : ∀ {i : Int32} {k : Int}, iv i k k → (decide (0 ≤ k) && decide (k < 6)) = true → vp_in i L := fun h1 h2 => by rw [hL6]; exact iv_in h1 (by simpa using h2)
  refine lv_aload_n hx hb dL_law_354 rfl (lv_at hl 2 rfl) ?_
  refine ti_calli (va_runV (As := []) (rest := []) ⟨hx, hb, hml, hown, hts⟩ (t_X9_town l hT1 hy1 ) (cwV 0 hts (good_V kw_184 kw_185 kw_186 kw_2 kw_187) rfl rfl rfl (by decide +kernel) ⟨by decide, by decide⟩) (ti_preV hK hT1 hy1 rfl rfl) rfl rfl hl.1 rfl (lv_room (Nat.le_of_ble_eq_true rfl)) dL_law_355 ⟨by decide, by decide⟩) hS (fun q h => hA1 q h) (fun r1 H1 locs hB hS _ hk => ?_)
  obtain ⟨_, ir1⟩ := hB
  have hT2 := TI.frame hT2 hdis hk
  generalize H1 = H at hT2 hS ⊢
  refine lv_aload_n hx hb dL_law_358 rfl (lv_at hl 1 rfl) ?_
  refine ti_calli (va_runV (As := []) (rest := [.int r1]) ⟨hx, hb, hml, hown, hts⟩ (t_X10_town l (RT1_weak hT2) hy2 ) (cwV 0 hts (good_V kw_374 kw_375 kw_376 kw_5 kw_377) rfl rfl rfl (by decide +kernel) ⟨by decide, by decide⟩) (ti_preV hK hT2 hy2 rfl rfl) rfl rfl hl.1 rfl (lv_room (Nat.le_of_ble_eq_true rfl)) dL_law_359 ⟨by decide, by decide⟩) hS (fun q h => hA2 q h) (fun r2 H1 locs hB hS _ hk => ?_)
  obtain ⟨_, ir2⟩ := hB
  generalize H1 = H at hS ⊢
  refine lv_icmp_eq (tgt := 2019) hx hb dL_law_362 (by decide) (fun _ => ?_) (fun h => ?_)
  · exact law_nxt l hL hx hb hr hml hown hts hX hbl hlocks hL6 hS hl
  · exact absurd (Int32.toInt_inj.mp (by have := ir1.1; have := ir1.2; have := ir2.1; have := ir2.2; omega)) h
set_option maxHeartbeats 8000000 in
set_option maxRecDepth 100000 in
theorem law_c3 {p : Program} {e : Env} {s : State} {m : MethodId} {below : List Frame} {meth : Method} {c : Code} (l : Launch) {b L : Nat} {xs : Nat → Int32} (hL : L ≤ 6) (hx : p.tables.exec = Jvm.exec) (hb : c.code = code) (hr : meth.sig.returnType = ret) (hml : c.maxLocals = 4) (hown : s.vm.findClass RL = some m.cls) (hts : ∀ w ∈ wq, w.before #[Value.ref b] s = true) (hX : va_X b L xs s s.heap) (hbl : b < s.heap.size) (hlocks : meth.locks = false) (hL6 : L = 6) {D : va_G} {c0 : Nat → ClassId} {Y1 Y2 : Nat → Option Nat} {o1 o2 : Nat} {H : Heap} {locs : List Loc} {ls : Array Slot} (hK : va_K D vwCl (tysOf c0) s) (hN : nwA s) (hdis : ∀ q, pA Y1 q → pA Y2 q → False) (hT1 : TI D vwCl (tysOf c0) (RT1 false) Y1 H) (hy1 : Y1 o1 = some 9) (hA1 : ∀ q, pA Y1 q → s.heap.size ≤ q) (hT2 : TI D vwCl (tysOf c0) (RT1 false) Y2 H) (hy2 : Y2 o2 = some 10) (hA2 : ∀ q, pA Y2 q → s.heap.size ≤ q) (hS : va_S (fun q : Nat => s.heap.size ≤ q) s.heap H locs) (hl : lv_has ls 4 [(3, .int 0), (2, .ref o2), (1, .ref o1), (0, .ref b)]) : W p l e room_1 s m #[Value.ref b] below meth c H locs 188 7230 (lw_Z below #[Value.ref b] s) (F0 m 367 ls []) := by
  have hbA : ¬ (fun q : Nat => s.heap.size ≤ q) b := Nat.not_le.mpr hbl
  have hin : ∀ {i : Int32} {k : Int}, iv i k k → (decide (0 ≤ k) && decide (k < 6)) = true → vp_in i L := fun h1 h2 => by rw [hL6]; exact iv_in h1 (by simpa using h2)
  refine lv_aload_n hx hb dL_law_367 rfl (lv_at hl 2 rfl) ?_
  refine lv_aload_n hx hb dL_law_368 rfl (lv_at hl 3 rfl) ?_
  refine lv_iload_n hx hb dL_law_369 rfl (lv_at hl 0 rfl) ?_
  refine lv_iconst (v := 1) hx hb dL_law_370 (by decide) ?_
  refine lv_iadd hx hb dL_law_371 ?_
  refine lv_topi (fun w9 e9 => ?_)
  obtain rfl : w9 = 1 := e9.trans (by decide)
  refine va_sld hx hb hX hbl hbA hS (hin (iv_c (x := (1 : Int32)) (k := 1) (by decide)) (by decide)) dL_law_372 ?_
  refine ti_calli (va_runV (As := [.int (xs (1 : Int32).toNatClampNeg)]) (rest := []) ⟨hx, hb, hml, hown, hts⟩ (t_X9_fault l hT1 hy1 (iv_top _)) (cwV 1 hts (good_V kw_457 kw_458 kw_459 kw_2 kw_460) rfl rfl rfl (by decide +kernel) ⟨by decide, by decide⟩) (ti_preV hK hT1 hy1 rfl rfl) rfl rfl hl.1 rfl (lv_room (Nat.le_of_ble_eq_true rfl)) dL_law_373 ⟨by decide, by decide⟩) hS (fun q h => hA1 q h) (fun r1 H1 locs hB hS _ hk => ?_)
  obtain ⟨_, pr1⟩ := hB
  have hT2 := TI.frame hT2 hdis hk
  generalize H1 = H at hT2 hS ⊢
  refine lv_aload_n hx hb dL_law_376 rfl (lv_at hl 1 rfl) ?_
  refine lv_aload_n hx hb dL_law_377 rfl (lv_at hl 3 rfl) ?_
  refine lv_iload_n hx hb dL_law_378 rfl (lv_at hl 0 rfl) ?_
  refine lv_iconst (v := 1) hx hb dL_law_379 (by decide) ?_
  refine lv_iadd hx hb dL_law_380 ?_
  refine lv_topi (fun w9 e9 => ?_)
  obtain rfl : w9 = 1 := e9.trans (by decide)
  refine va_sld hx hb hX hbl hbA hS (hin (iv_c (x := (1 : Int32)) (k := 1) (by decide)) (by decide)) dL_law_381 ?_
  refine ti_calli (va_runV (As := [.int (xs (1 : Int32).toNatClampNeg)]) (rest := [.int r1]) ⟨hx, hb, hml, hown, hts⟩ (t_X10_fault l hT2 hy2 (iv_top _)) (cwV 1 hts (good_V kw_463 kw_464 kw_465 kw_5 kw_466) rfl rfl rfl (by decide +kernel) ⟨by decide, by decide⟩) (ti_preV hK hT2 hy2 rfl rfl) rfl rfl hl.1 rfl (lv_room (Nat.le_of_ble_eq_true rfl)) dL_law_382 ⟨by decide, by decide⟩) hS (fun q h => hA2 q h) (fun r2 H1 locs hB hS _ hk => ?_)
  obtain ⟨_, pr2⟩ := hB
  generalize H1 = H at hS ⊢
  refine lv_icmp_eq (tgt := 2019) hx hb dL_law_385 (by decide) (fun _ => ?_) (fun h => ?_)
  · exact law_nxt l hL hx hb hr hml hown hts hX hbl hlocks hL6 hS hl
  · exact absurd (Int32.toInt_inj.mp (by omega)) h
set_option maxHeartbeats 8000000 in
set_option maxRecDepth 100000 in
theorem law_c4 {p : Program} {e : Env} {s : State} {m : MethodId} {below : List Frame} {meth : Method} {c : Code} (l : Launch) {b L : Nat} {xs : Nat → Int32} (hL : L ≤ 6) (hx : p.tables.exec = Jvm.exec) (hb : c.code = code) (hr : meth.sig.returnType = ret) (hml : c.maxLocals = 4) (hown : s.vm.findClass RL = some m.cls) (hts : ∀ w ∈ wq, w.before #[Value.ref b] s = true) (hX : va_X b L xs s s.heap) (hbl : b < s.heap.size) (hlocks : meth.locks = false) (hL6 : L = 6) {D : va_G} {c0 : Nat → ClassId} {Y1 Y2 : Nat → Option Nat} {o1 o2 : Nat} {H : Heap} {locs : List Loc} {ls : Array Slot} (hK : va_K D vwCl (tysOf c0) s) (hN : nwA s) (hdis : ∀ q, pA Y1 q → pA Y2 q → False) (hT1 : TI D vwCl (tysOf c0) (RT1 false) Y1 H) (hy1 : Y1 o1 = some 9) (hA1 : ∀ q, pA Y1 q → s.heap.size ≤ q) (hT2 : TI D vwCl (tysOf c0) (RT1 false) Y2 H) (hy2 : Y2 o2 = some 10) (hA2 : ∀ q, pA Y2 q → s.heap.size ≤ q) (hS : va_S (fun q : Nat => s.heap.size ≤ q) s.heap H locs) (hl : lv_has ls 4 [(3, .int 0), (2, .ref o2), (1, .ref o1), (0, .ref b)]) : W p l e room_1 s m #[Value.ref b] below meth c H locs 188 7230 (lw_Z below #[Value.ref b] s) (F0 m 390 ls []) := by
  have hbA : ¬ (fun q : Nat => s.heap.size ≤ q) b := Nat.not_le.mpr hbl
  have hin : ∀ {i : Int32} {k : Int}, iv i k k → (decide (0 ≤ k) && decide (k < 6)) = true → vp_in i L := fun h1 h2 => by rw [hL6]; exact iv_in h1 (by simpa using h2)
  refine lv_aload_n hx hb dL_law_390 rfl (lv_at hl 2 rfl) ?_
  refine lv_aload_n hx hb dL_law_391 rfl (lv_at hl 3 rfl) ?_
  refine lv_iload_n hx hb dL_law_392 rfl (lv_at hl 0 rfl) ?_
  refine lv_iconst (v := 1) hx hb dL_law_393 (by decide) ?_
  refine lv_iadd hx hb dL_law_394 ?_
  refine lv_topi (fun w9 e9 => ?_)
  obtain rfl : w9 = 1 := e9.trans (by decide)
  refine va_sld hx hb hX hbl hbA hS (hin (iv_c (x := (1 : Int32)) (k := 1) (by decide)) (by decide)) dL_law_395 ?_
  refine lv_aload_n hx hb dL_law_396 rfl (lv_at hl 3 rfl) ?_
  refine lv_iload_n hx hb dL_law_397 rfl (lv_at hl 0 rfl) ?_
  refine lv_iconst (v := 2) hx hb dL_law_398 (by decide) ?_
  refine lv_iadd hx hb dL_law_399 ?_
  refine lv_topi (fun w9 e9 => ?_)
  obtain rfl : w9 = 2 := e9.trans (by decide)
  refine va_sld hx hb hX hbl hbA hS (hin (iv_c (x := (2 : Int32)) (k := 2) (by decide)) (by decide)) dL_law_400 ?_
  refine ti_calli (va_runV (As := [.int (xs (1 : Int32).toNatClampNeg), .int (xs (2 : Int32).toNatClampNeg)]) (rest := []) ⟨hx, hb, hml, hown, hts⟩ (t_X9_person l hT1 hy1 (iv_top _) (iv_top _)) (cwV 2 hts (good_V kw_467 kw_468 kw_469 kw_2 kw_470) rfl rfl rfl (by decide +kernel) ⟨by decide, by decide⟩) (ti_preV hK hT1 hy1 rfl rfl) rfl rfl hl.1 rfl (lv_room (Nat.le_of_ble_eq_true rfl)) dL_law_401 ⟨by decide, by decide⟩) hS (fun q h => hA1 q h) (fun r1 H1 locs hB hS _ hk => ?_)
  obtain ⟨_, ir1⟩ := hB
  have hT2 := TI.frame hT2 hdis hk
  generalize H1 = H at hT2 hS ⊢
  refine lv_aload_n hx hb dL_law_404 rfl (lv_at hl 1 rfl) ?_
  refine lv_aload_n hx hb dL_law_405 rfl (lv_at hl 3 rfl) ?_
  refine lv_iload_n hx hb dL_law_406 rfl (lv_at hl 0 rfl) ?_
  refine lv_iconst (v := 1) hx hb dL_law_407 (by decide) ?_
  refine lv_iadd hx hb dL_law_408 ?_
  refine lv_topi (fun w9 e9 => ?_)
  obtain rfl : w9 = 1 := e9.trans (by decide)
  refine va_sld hx hb hX hbl hbA hS (hin (iv_c (x := (1 : Int32)) (k := 1) (by decide)) (by decide)) dL_law_409 ?_
  refine lv_aload_n hx hb dL_law_410 rfl (lv_at hl 3 rfl) ?_
  refine lv_iload_n hx hb dL_law_411 rfl (lv_at hl 0 rfl) ?_
  refine lv_iconst (v := 2) hx hb dL_law_412 (by decide) ?_
  refine lv_iadd hx hb dL_law_413 ?_
  refine lv_topi (fun w9 e9 => ?_)
  obtain rfl : w9 = 2 := e9.trans (by decide)
  refine va_sld hx hb hX hbl hbA hS (hin (iv_c (x := (2 : Int32)) (k := 2) (by decide)) (by decide)) dL_law_414 ?_
  refine ti_calli (va_runV (As := [.int (xs (1 : Int32).toNatClampNeg), .int (xs (2 : Int32).toNatClampNeg)]) (rest := [.int r1]) ⟨hx, hb, hml, hown, hts⟩ (t_X10_person l hT2 hy2 (iv_top _) (iv_top _)) (cwV 2 hts (good_V kw_481 kw_482 kw_483 kw_5 kw_484) rfl rfl rfl (by decide +kernel) ⟨by decide, by decide⟩) (ti_preV hK hT2 hy2 rfl rfl) rfl rfl hl.1 rfl (lv_room (Nat.le_of_ble_eq_true rfl)) dL_law_415 ⟨by decide, by decide⟩) hS (fun q h => hA2 q h) (fun r2 H1 locs hB hS _ hk => ?_)
  obtain ⟨_, ir2⟩ := hB
  generalize H1 = H at hS ⊢
  refine lv_icmp_eq (tgt := 2019) hx hb dL_law_418 (by decide) (fun _ => ?_) (fun h => ?_)
  · exact law_nxt l hL hx hb hr hml hown hts hX hbl hlocks hL6 hS hl
  · exact absurd (Int32.toInt_inj.mp (by have := ir1.1; have := ir1.2; have := ir2.1; have := ir2.2; omega)) h
set_option maxHeartbeats 8000000 in
set_option maxRecDepth 100000 in
theorem law_c5 {p : Program} {e : Env} {s : State} {m : MethodId} {below : List Frame} {meth : Method} {c : Code} (l : Launch) {b L : Nat} {xs : Nat → Int32} (hL : L ≤ 6) (hx : p.tables.exec = Jvm.exec) (hb : c.code = code) (hr : meth.sig.returnType = ret) (hml : c.maxLocals = 4) (hown : s.vm.findClass RL = some m.cls) (hts : ∀ w ∈ wq, w.before #[Value.ref b] s = true) (hX : va_X b L xs s s.heap) (hbl : b < s.heap.size) (hlocks : meth.locks = false) (hL6 : L = 6) {D : va_G} {c0 : Nat → ClassId} {Y1 Y2 : Nat → Option Nat} {o1 o2 : Nat} {H : Heap} {locs : List Loc} {ls : Array Slot} (hK : va_K D vwCl (tysOf c0) s) (hN : nwA s) (hdis : ∀ q, pA Y1 q → pA Y2 q → False) (hT1 : TI D vwCl (tysOf c0) (RT1 false) Y1 H) (hy1 : Y1 o1 = some 9) (hA1 : ∀ q, pA Y1 q → s.heap.size ≤ q) (hT2 : TI D vwCl (tysOf c0) (RT1 false) Y2 H) (hy2 : Y2 o2 = some 10) (hA2 : ∀ q, pA Y2 q → s.heap.size ≤ q) (hS : va_S (fun q : Nat => s.heap.size ≤ q) s.heap H locs) (hl : lv_has ls 4 [(3, .int 0), (2, .ref o2), (1, .ref o1), (0, .ref b)]) : W p l e room_1 s m #[Value.ref b] below meth c H locs 188 7230 (lw_Z below #[Value.ref b] s) (F0 m 423 ls []) := by
  have hbA : ¬ (fun q : Nat => s.heap.size ≤ q) b := Nat.not_le.mpr hbl
  have hin : ∀ {i : Int32} {k : Int}, iv i k k → (decide (0 ≤ k) && decide (k < 6)) = true → vp_in i L := fun h1 h2 => by rw [hL6]; exact iv_in h1 (by simpa using h2)
  refine lv_aload_n hx hb dL_law_423 rfl (lv_at hl 2 rfl) ?_
  refine lv_aload_n hx hb dL_law_424 rfl (lv_at hl 3 rfl) ?_
  refine lv_iload_n hx hb dL_law_425 rfl (lv_at hl 0 rfl) ?_
  refine lv_iconst (v := 1) hx hb dL_law_426 (by decide) ?_
  refine lv_iadd hx hb dL_law_427 ?_
  refine lv_topi (fun w9 e9 => ?_)
  obtain rfl : w9 = 1 := e9.trans (by decide)
  refine va_sld hx hb hX hbl hbA hS (hin (iv_c (x := (1 : Int32)) (k := 1) (by decide)) (by decide)) dL_law_428 ?_
  refine lv_aload_n hx hb dL_law_429 rfl (lv_at hl 3 rfl) ?_
  refine lv_iload_n hx hb dL_law_430 rfl (lv_at hl 0 rfl) ?_
  refine lv_iconst (v := 2) hx hb dL_law_431 (by decide) ?_
  refine lv_iadd hx hb dL_law_432 ?_
  refine lv_topi (fun w9 e9 => ?_)
  obtain rfl : w9 = 2 := e9.trans (by decide)
  refine va_sld hx hb hX hbl hbA hS (hin (iv_c (x := (2 : Int32)) (k := 2) (by decide)) (by decide)) dL_law_433 ?_
  refine ti_calli (va_runV (As := [.int (xs (1 : Int32).toNatClampNeg), .int (xs (2 : Int32).toNatClampNeg)]) (rest := []) ⟨hx, hb, hml, hown, hts⟩ (t_X9_have l hT1 hy1 (iv_top _) (iv_top _)) (cwV 2 hts (good_V kw_494 kw_495 kw_496 kw_2 kw_497) rfl rfl rfl (by decide +kernel) ⟨by decide, by decide⟩) (ti_preV hK hT1 hy1 rfl rfl) rfl rfl hl.1 rfl (lv_room (Nat.le_of_ble_eq_true rfl)) dL_law_434 ⟨by decide, by decide⟩) hS (fun q h => hA1 q h) (fun r1 H1 locs hB hS _ hk => ?_)
  obtain ⟨_, ir1⟩ := hB
  have hT2 := TI.frame hT2 hdis hk
  generalize H1 = H at hT2 hS ⊢
  refine lv_aload_n hx hb dL_law_437 rfl (lv_at hl 1 rfl) ?_
  refine lv_aload_n hx hb dL_law_438 rfl (lv_at hl 3 rfl) ?_
  refine lv_iload_n hx hb dL_law_439 rfl (lv_at hl 0 rfl) ?_
  refine lv_iconst (v := 1) hx hb dL_law_440 (by decide) ?_
  refine lv_iadd hx hb dL_law_441 ?_
  refine lv_topi (fun w9 e9 => ?_)
  obtain rfl : w9 = 1 := e9.trans (by decide)
  refine va_sld hx hb hX hbl hbA hS (hin (iv_c (x := (1 : Int32)) (k := 1) (by decide)) (by decide)) dL_law_442 ?_
  refine lv_aload_n hx hb dL_law_443 rfl (lv_at hl 3 rfl) ?_
  refine lv_iload_n hx hb dL_law_444 rfl (lv_at hl 0 rfl) ?_
  refine lv_iconst (v := 2) hx hb dL_law_445 (by decide) ?_
  refine lv_iadd hx hb dL_law_446 ?_
  refine lv_topi (fun w9 e9 => ?_)
  obtain rfl : w9 = 2 := e9.trans (by decide)
  refine va_sld hx hb hX hbl hbA hS (hin (iv_c (x := (2 : Int32)) (k := 2) (by decide)) (by decide)) dL_law_447 ?_
  refine ti_calli (va_runV (As := [.int (xs (1 : Int32).toNatClampNeg), .int (xs (2 : Int32).toNatClampNeg)]) (rest := [.int r1]) ⟨hx, hb, hml, hown, hts⟩ (t_X10_have l hT2 hy2 (iv_top _) (iv_top _)) (cwV 2 hts (good_V kw_503 kw_504 kw_505 kw_5 kw_506) rfl rfl rfl (by decide +kernel) ⟨by decide, by decide⟩) (ti_preV hK hT2 hy2 rfl rfl) rfl rfl hl.1 rfl (lv_room (Nat.le_of_ble_eq_true rfl)) dL_law_448 ⟨by decide, by decide⟩) hS (fun q h => hA2 q h) (fun r2 H1 locs hB hS _ hk => ?_)
  obtain ⟨_, ir2⟩ := hB
  generalize H1 = H at hS ⊢
  refine lv_icmp_eq (tgt := 2019) hx hb dL_law_451 (by decide) (fun _ => ?_) (fun h => ?_)
  · exact law_nxt l hL hx hb hr hml hown hts hX hbl hlocks hL6 hS hl
  · exact absurd (Int32.toInt_inj.mp (by have := ir1.1; have := ir1.2; have := ir2.1; have := ir2.2; omega)) h
set_option maxHeartbeats 8000000 in
set_option maxRecDepth 100000 in
theorem law_c6 {p : Program} {e : Env} {s : State} {m : MethodId} {below : List Frame} {meth : Method} {c : Code} (l : Launch) {b L : Nat} {xs : Nat → Int32} (hL : L ≤ 6) (hx : p.tables.exec = Jvm.exec) (hb : c.code = code) (hr : meth.sig.returnType = ret) (hml : c.maxLocals = 4) (hown : s.vm.findClass RL = some m.cls) (hts : ∀ w ∈ wq, w.before #[Value.ref b] s = true) (hX : va_X b L xs s s.heap) (hbl : b < s.heap.size) (hlocks : meth.locks = false) (hL6 : L = 6) {D : va_G} {c0 : Nat → ClassId} {Y1 Y2 : Nat → Option Nat} {o1 o2 : Nat} {H : Heap} {locs : List Loc} {ls : Array Slot} (hK : va_K D vwCl (tysOf c0) s) (hN : nwA s) (hdis : ∀ q, pA Y1 q → pA Y2 q → False) (hT1 : TI D vwCl (tysOf c0) (RT1 false) Y1 H) (hy1 : Y1 o1 = some 9) (hA1 : ∀ q, pA Y1 q → s.heap.size ≤ q) (hT2 : TI D vwCl (tysOf c0) (RT1 false) Y2 H) (hy2 : Y2 o2 = some 10) (hA2 : ∀ q, pA Y2 q → s.heap.size ≤ q) (hS : va_S (fun q : Nat => s.heap.size ≤ q) s.heap H locs) (hl : lv_has ls 4 [(3, .int 0), (2, .ref o2), (1, .ref o1), (0, .ref b)]) : W p l e room_1 s m #[Value.ref b] below meth c H locs 188 7230 (lw_Z below #[Value.ref b] s) (F0 m 456 ls []) := by
  have hbA : ¬ (fun q : Nat => s.heap.size ≤ q) b := Nat.not_le.mpr hbl
  have hin : ∀ {i : Int32} {k : Int}, iv i k k → (decide (0 ≤ k) && decide (k < 6)) = true → vp_in i L := fun h1 h2 => by rw [hL6]; exact iv_in h1 (by simpa using h2)
  refine lv_aload_n hx hb dL_law_456 rfl (lv_at hl 2 rfl) ?_
  refine lv_aload_n hx hb dL_law_457 rfl (lv_at hl 3 rfl) ?_
  refine lv_iload_n hx hb dL_law_458 rfl (lv_at hl 0 rfl) ?_
  refine lv_iconst (v := 1) hx hb dL_law_459 (by decide) ?_
  refine lv_iadd hx hb dL_law_460 ?_
  refine lv_topi (fun w9 e9 => ?_)
  obtain rfl : w9 = 1 := e9.trans (by decide)
  refine va_sld hx hb hX hbl hbA hS (hin (iv_c (x := (1 : Int32)) (k := 1) (by decide)) (by decide)) dL_law_461 ?_
  refine lv_aload_n hx hb dL_law_462 rfl (lv_at hl 3 rfl) ?_
  refine lv_iload_n hx hb dL_law_463 rfl (lv_at hl 0 rfl) ?_
  refine lv_iconst (v := 2) hx hb dL_law_464 (by decide) ?_
  refine lv_iadd hx hb dL_law_465 ?_
  refine lv_topi (fun w9 e9 => ?_)
  obtain rfl : w9 = 2 := e9.trans (by decide)
  refine va_sld hx hb hX hbl hbA hS (hin (iv_c (x := (2 : Int32)) (k := 2) (by decide)) (by decide)) dL_law_466 ?_
  refine ti_calli (va_runV (As := [.int (xs (1 : Int32).toNatClampNeg), .int (xs (2 : Int32).toNatClampNeg)]) (rest := []) ⟨hx, hb, hml, hown, hts⟩ (t_X9_hide l hT1 hy1 (iv_top _) (iv_top _)) (cwV 2 hts (good_V kw_515 kw_516 kw_517 kw_2 kw_518) rfl rfl rfl (by decide +kernel) ⟨by decide, by decide⟩) (ti_preV hK hT1 hy1 rfl rfl) rfl rfl hl.1 rfl (lv_room (Nat.le_of_ble_eq_true rfl)) dL_law_467 ⟨by decide, by decide⟩) hS (fun q h => hA1 q h) (fun r1 H1 locs hB hS _ hk => ?_)
  obtain ⟨_, ir1⟩ := hB
  have hT2 := TI.frame hT2 hdis hk
  generalize H1 = H at hT2 hS ⊢
  refine lv_aload_n hx hb dL_law_470 rfl (lv_at hl 1 rfl) ?_
  refine lv_aload_n hx hb dL_law_471 rfl (lv_at hl 3 rfl) ?_
  refine lv_iload_n hx hb dL_law_472 rfl (lv_at hl 0 rfl) ?_
  refine lv_iconst (v := 1) hx hb dL_law_473 (by decide) ?_
  refine lv_iadd hx hb dL_law_474 ?_
  refine lv_topi (fun w9 e9 => ?_)
  obtain rfl : w9 = 1 := e9.trans (by decide)
  refine va_sld hx hb hX hbl hbA hS (hin (iv_c (x := (1 : Int32)) (k := 1) (by decide)) (by decide)) dL_law_475 ?_
  refine lv_aload_n hx hb dL_law_476 rfl (lv_at hl 3 rfl) ?_
  refine lv_iload_n hx hb dL_law_477 rfl (lv_at hl 0 rfl) ?_
  refine lv_iconst (v := 2) hx hb dL_law_478 (by decide) ?_
  refine lv_iadd hx hb dL_law_479 ?_
  refine lv_topi (fun w9 e9 => ?_)
  obtain rfl : w9 = 2 := e9.trans (by decide)
  refine va_sld hx hb hX hbl hbA hS (hin (iv_c (x := (2 : Int32)) (k := 2) (by decide)) (by decide)) dL_law_480 ?_
  refine ti_calli (va_runV (As := [.int (xs (1 : Int32).toNatClampNeg), .int (xs (2 : Int32).toNatClampNeg)]) (rest := [.int r1]) ⟨hx, hb, hml, hown, hts⟩ (t_X10_hide l hT2 hy2 (iv_top _) (iv_top _)) (cwV 2 hts (good_V kw_520 kw_521 kw_522 kw_5 kw_523) rfl rfl rfl (by decide +kernel) ⟨by decide, by decide⟩) (ti_preV hK hT2 hy2 rfl rfl) rfl rfl hl.1 rfl (lv_room (Nat.le_of_ble_eq_true rfl)) dL_law_481 ⟨by decide, by decide⟩) hS (fun q h => hA2 q h) (fun r2 H1 locs hB hS _ hk => ?_)
  obtain ⟨_, ir2⟩ := hB
  generalize H1 = H at hS ⊢
  refine lv_icmp_eq (tgt := 2019) hx hb dL_law_484 (by decide) (fun _ => ?_) (fun h => ?_)
  · exact law_nxt l hL hx hb hr hml hown hts hX hbl hlocks hL6 hS hl
  · exact absurd (Int32.toInt_inj.mp (by have := ir1.1; have := ir1.2; have := ir2.1; have := ir2.2; omega)) h
set_option maxHeartbeats 8000000 in
set_option maxRecDepth 100000 in
theorem law_c7 {p : Program} {e : Env} {s : State} {m : MethodId} {below : List Frame} {meth : Method} {c : Code} (l : Launch) {b L : Nat} {xs : Nat → Int32} (hL : L ≤ 6) (hx : p.tables.exec = Jvm.exec) (hb : c.code = code) (hr : meth.sig.returnType = ret) (hml : c.maxLocals = 4) (hown : s.vm.findClass RL = some m.cls) (hts : ∀ w ∈ wq, w.before #[Value.ref b] s = true) (hX : va_X b L xs s s.heap) (hbl : b < s.heap.size) (hlocks : meth.locks = false) (hL6 : L = 6) {D : va_G} {c0 : Nat → ClassId} {Y1 Y2 : Nat → Option Nat} {o1 o2 : Nat} {H : Heap} {locs : List Loc} {ls : Array Slot} (hK : va_K D vwCl (tysOf c0) s) (hN : nwA s) (hdis : ∀ q, pA Y1 q → pA Y2 q → False) (hT1 : TI D vwCl (tysOf c0) (RT1 false) Y1 H) (hy1 : Y1 o1 = some 9) (hA1 : ∀ q, pA Y1 q → s.heap.size ≤ q) (hT2 : TI D vwCl (tysOf c0) (RT1 false) Y2 H) (hy2 : Y2 o2 = some 10) (hA2 : ∀ q, pA Y2 q → s.heap.size ≤ q) (hS : va_S (fun q : Nat => s.heap.size ≤ q) s.heap H locs) (hl : lv_has ls 4 [(3, .int 0), (2, .ref o2), (1, .ref o1), (0, .ref b)]) : W p l e room_1 s m #[Value.ref b] below meth c H locs 188 7230 (lw_Z below #[Value.ref b] s) (F0 m 489 ls []) := by
  have hbA : ¬ (fun q : Nat => s.heap.size ≤ q) b := Nat.not_le.mpr hbl
  have hin : ∀ {i : Int32} {k : Int}, iv i k k → (decide (0 ≤ k) && decide (k < 6)) = true → vp_in i L := fun h1 h2 => by rw [hL6]; exact iv_in h1 (by simpa using h2)
  refine lv_aload_n hx hb dL_law_489 rfl (lv_at hl 2 rfl) ?_
  refine lv_aload_n hx hb dL_law_490 rfl (lv_at hl 3 rfl) ?_
  refine lv_iload_n hx hb dL_law_491 rfl (lv_at hl 0 rfl) ?_
  refine lv_iconst (v := 1) hx hb dL_law_492 (by decide) ?_
  refine lv_iadd hx hb dL_law_493 ?_
  refine lv_topi (fun w9 e9 => ?_)
  obtain rfl : w9 = 1 := e9.trans (by decide)
  refine va_sld hx hb hX hbl hbA hS (hin (iv_c (x := (1 : Int32)) (k := 1) (by decide)) (by decide)) dL_law_494 ?_
  refine lv_aload_n hx hb dL_law_495 rfl (lv_at hl 3 rfl) ?_
  refine lv_iload_n hx hb dL_law_496 rfl (lv_at hl 0 rfl) ?_
  refine lv_iconst (v := 2) hx hb dL_law_497 (by decide) ?_
  refine lv_iadd hx hb dL_law_498 ?_
  refine lv_topi (fun w9 e9 => ?_)
  obtain rfl : w9 = 2 := e9.trans (by decide)
  refine va_sld hx hb hX hbl hbA hS (hin (iv_c (x := (2 : Int32)) (k := 2) (by decide)) (by decide)) dL_law_499 ?_
  refine ti_calli (va_runV (As := [.int (xs (1 : Int32).toNatClampNeg), .int (xs (2 : Int32).toNatClampNeg)]) (rest := []) ⟨hx, hb, hml, hown, hts⟩ (t_X9_seen l hT1 hy1 (iv_top _) (iv_top _)) (cwV 2 hts (good_V kw_525 kw_526 kw_527 kw_2 kw_528) rfl rfl rfl (by decide +kernel) ⟨by decide, by decide⟩) (ti_preV hK hT1 hy1 rfl rfl) rfl rfl hl.1 rfl (lv_room (Nat.le_of_ble_eq_true rfl)) dL_law_500 ⟨by decide, by decide⟩) hS (fun q h => hA1 q h) (fun r1 H1 locs hB hS _ hk => ?_)
  obtain ⟨_, ir1⟩ := hB
  have hT2 := TI.frame hT2 hdis hk
  generalize H1 = H at hT2 hS ⊢
  refine lv_aload_n hx hb dL_law_503 rfl (lv_at hl 1 rfl) ?_
  refine lv_aload_n hx hb dL_law_504 rfl (lv_at hl 3 rfl) ?_
  refine lv_iload_n hx hb dL_law_505 rfl (lv_at hl 0 rfl) ?_
  refine lv_iconst (v := 1) hx hb dL_law_506 (by decide) ?_
  refine lv_iadd hx hb dL_law_507 ?_
  refine lv_topi (fun w9 e9 => ?_)
  obtain rfl : w9 = 1 := e9.trans (by decide)
  refine va_sld hx hb hX hbl hbA hS (hin (iv_c (x := (1 : Int32)) (k := 1) (by decide)) (by decide)) dL_law_508 ?_
  refine lv_aload_n hx hb dL_law_509 rfl (lv_at hl 3 rfl) ?_
  refine lv_iload_n hx hb dL_law_510 rfl (lv_at hl 0 rfl) ?_
  refine lv_iconst (v := 2) hx hb dL_law_511 (by decide) ?_
  refine lv_iadd hx hb dL_law_512 ?_
  refine lv_topi (fun w9 e9 => ?_)
  obtain rfl : w9 = 2 := e9.trans (by decide)
  refine va_sld hx hb hX hbl hbA hS (hin (iv_c (x := (2 : Int32)) (k := 2) (by decide)) (by decide)) dL_law_513 ?_
  refine ti_calli (va_runV (As := [.int (xs (1 : Int32).toNatClampNeg), .int (xs (2 : Int32).toNatClampNeg)]) (rest := [.int r1]) ⟨hx, hb, hml, hown, hts⟩ (t_X10_seen l hT2 hy2 (iv_top _) (iv_top _)) (cwV 2 hts (good_V kw_541 kw_542 kw_543 kw_5 kw_544) rfl rfl rfl (by decide +kernel) ⟨by decide, by decide⟩) (ti_preV hK hT2 hy2 rfl rfl) rfl rfl hl.1 rfl (lv_room (Nat.le_of_ble_eq_true rfl)) dL_law_514 ⟨by decide, by decide⟩) hS (fun q h => hA2 q h) (fun r2 H1 locs hB hS _ hk => ?_)
  obtain ⟨_, ir2⟩ := hB
  generalize H1 = H at hS ⊢
  refine lv_icmp_eq (tgt := 2019) hx hb dL_law_517 (by decide) (fun _ => ?_) (fun h => ?_)
  · exact law_nxt l hL hx hb hr hml hown hts hX hbl hlocks hL6 hS hl
  · exact absurd (Int32.toInt_inj.mp (by have := ir1.1; have := ir1.2; have := ir2.1; have := ir2.2; omega)) h
set_option maxHeartbeats 8000000 in
set_option maxRecDepth 100000 in
theorem law_c8 {p : Program} {e : Env} {s : State} {m : MethodId} {below : List Frame} {meth : Method} {c : Code} (l : Launch) {b L : Nat} {xs : Nat → Int32} (hL : L ≤ 6) (hx : p.tables.exec = Jvm.exec) (hb : c.code = code) (hr : meth.sig.returnType = ret) (hml : c.maxLocals = 4) (hown : s.vm.findClass RL = some m.cls) (hts : ∀ w ∈ wq, w.before #[Value.ref b] s = true) (hX : va_X b L xs s s.heap) (hbl : b < s.heap.size) (hlocks : meth.locks = false) (hL6 : L = 6) {D : va_G} {c0 : Nat → ClassId} {Y1 Y2 : Nat → Option Nat} {o1 o2 : Nat} {H : Heap} {locs : List Loc} {ls : Array Slot} (hK : va_K D vwCl (tysOf c0) s) (hN : nwA s) (hdis : ∀ q, pA Y1 q → pA Y2 q → False) (hT1 : TI D vwCl (tysOf c0) (RT1 false) Y1 H) (hy1 : Y1 o1 = some 9) (hA1 : ∀ q, pA Y1 q → s.heap.size ≤ q) (hT2 : TI D vwCl (tysOf c0) (RT1 false) Y2 H) (hy2 : Y2 o2 = some 10) (hA2 : ∀ q, pA Y2 q → s.heap.size ≤ q) (hS : va_S (fun q : Nat => s.heap.size ≤ q) s.heap H locs) (hl : lv_has ls 4 [(3, .int 0), (2, .ref o2), (1, .ref o1), (0, .ref b)]) : W p l e room_1 s m #[Value.ref b] below meth c H locs 188 7230 (lw_Z below #[Value.ref b] s) (F0 m 522 ls []) := by
  have hbA : ¬ (fun q : Nat => s.heap.size ≤ q) b := Nat.not_le.mpr hbl
  have hin : ∀ {i : Int32} {k : Int}, iv i k k → (decide (0 ≤ k) && decide (k < 6)) = true → vp_in i L := fun h1 h2 => by rw [hL6]; exact iv_in h1 (by simpa using h2)
  refine lv_aload_n hx hb dL_law_522 rfl (lv_at hl 2 rfl) ?_
  refine lv_aload_n hx hb dL_law_523 rfl (lv_at hl 3 rfl) ?_
  refine lv_iload_n hx hb dL_law_524 rfl (lv_at hl 0 rfl) ?_
  refine lv_iconst (v := 1) hx hb dL_law_525 (by decide) ?_
  refine lv_iadd hx hb dL_law_526 ?_
  refine lv_topi (fun w9 e9 => ?_)
  obtain rfl : w9 = 1 := e9.trans (by decide)
  refine va_sld hx hb hX hbl hbA hS (hin (iv_c (x := (1 : Int32)) (k := 1) (by decide)) (by decide)) dL_law_527 ?_
  refine lv_aload_n hx hb dL_law_528 rfl (lv_at hl 3 rfl) ?_
  refine lv_iload_n hx hb dL_law_529 rfl (lv_at hl 0 rfl) ?_
  refine lv_iconst (v := 2) hx hb dL_law_530 (by decide) ?_
  refine lv_iadd hx hb dL_law_531 ?_
  refine lv_topi (fun w9 e9 => ?_)
  obtain rfl : w9 = 2 := e9.trans (by decide)
  refine va_sld hx hb hX hbl hbA hS (hin (iv_c (x := (2 : Int32)) (k := 2) (by decide)) (by decide)) dL_law_532 ?_
  refine lv_aload_n hx hb dL_law_533 rfl (lv_at hl 3 rfl) ?_
  refine lv_iload_n hx hb dL_law_534 rfl (lv_at hl 0 rfl) ?_
  refine lv_iconst (v := 3) hx hb dL_law_535 (by decide) ?_
  refine lv_iadd hx hb dL_law_536 ?_
  refine lv_topi (fun w9 e9 => ?_)
  obtain rfl : w9 = 3 := e9.trans (by decide)
  refine va_sld hx hb hX hbl hbA hS (hin (iv_c (x := (3 : Int32)) (k := 3) (by decide)) (by decide)) dL_law_537 ?_
  refine ti_calli (va_runV (As := [.int (xs (1 : Int32).toNatClampNeg), .int (xs (2 : Int32).toNatClampNeg), .int (xs (3 : Int32).toNatClampNeg)]) (rest := []) ⟨hx, hb, hml, hown, hts⟩ (t_X9_sight l hT1 hy1 (iv_top _) (iv_top _) (iv_top _)) (cwV 3 hts (good_V kw_557 kw_558 kw_559 kw_2 kw_560) rfl rfl rfl (by decide +kernel) ⟨by decide, by decide⟩) (ti_preV hK hT1 hy1 rfl rfl) rfl rfl hl.1 rfl (lv_room (Nat.le_of_ble_eq_true rfl)) dL_law_538 ⟨by decide, by decide⟩) hS (fun q h => hA1 q h) (fun r1 H1 locs hB hS _ hk => ?_)
  obtain ⟨_, ir1⟩ := hB
  have hT2 := TI.frame hT2 hdis hk
  generalize H1 = H at hT2 hS ⊢
  refine lv_aload_n hx hb dL_law_541 rfl (lv_at hl 1 rfl) ?_
  refine lv_aload_n hx hb dL_law_542 rfl (lv_at hl 3 rfl) ?_
  refine lv_iload_n hx hb dL_law_543 rfl (lv_at hl 0 rfl) ?_
  refine lv_iconst (v := 1) hx hb dL_law_544 (by decide) ?_
  refine lv_iadd hx hb dL_law_545 ?_
  refine lv_topi (fun w9 e9 => ?_)
  obtain rfl : w9 = 1 := e9.trans (by decide)
  refine va_sld hx hb hX hbl hbA hS (hin (iv_c (x := (1 : Int32)) (k := 1) (by decide)) (by decide)) dL_law_546 ?_
  refine lv_aload_n hx hb dL_law_547 rfl (lv_at hl 3 rfl) ?_
  refine lv_iload_n hx hb dL_law_548 rfl (lv_at hl 0 rfl) ?_
  refine lv_iconst (v := 2) hx hb dL_law_549 (by decide) ?_
  refine lv_iadd hx hb dL_law_550 ?_
  refine lv_topi (fun w9 e9 => ?_)
  obtain rfl : w9 = 2 := e9.trans (by decide)
  refine va_sld hx hb hX hbl hbA hS (hin (iv_c (x := (2 : Int32)) (k := 2) (by decide)) (by decide)) dL_law_551 ?_
  refine lv_aload_n hx hb dL_law_552 rfl (lv_at hl 3 rfl) ?_
  refine lv_iload_n hx hb dL_law_553 rfl (lv_at hl 0 rfl) ?_
  refine lv_iconst (v := 3) hx hb dL_law_554 (by decide) ?_
  refine lv_iadd hx hb dL_law_555 ?_
  refine lv_topi (fun w9 e9 => ?_)
  obtain rfl : w9 = 3 := e9.trans (by decide)
  refine va_sld hx hb hX hbl hbA hS (hin (iv_c (x := (3 : Int32)) (k := 3) (by decide)) (by decide)) dL_law_556 ?_
  refine ti_calli (va_runV (As := [.int (xs (1 : Int32).toNatClampNeg), .int (xs (2 : Int32).toNatClampNeg), .int (xs (3 : Int32).toNatClampNeg)]) (rest := [.int r1]) ⟨hx, hb, hml, hown, hts⟩ (t_X10_sight l hT2 hy2 (iv_top _) (iv_top _) (iv_top _)) (cwV 3 hts (good_V kw_562 kw_563 kw_564 kw_5 kw_565) rfl rfl rfl (by decide +kernel) ⟨by decide, by decide⟩) (ti_preV hK hT2 hy2 rfl rfl) rfl rfl hl.1 rfl (lv_room (Nat.le_of_ble_eq_true rfl)) dL_law_557 ⟨by decide, by decide⟩) hS (fun q h => hA2 q h) (fun r2 H1 locs hB hS _ hk => ?_)
  obtain ⟨_, ir2⟩ := hB
  generalize H1 = H at hS ⊢
  refine lv_icmp_eq (tgt := 2019) hx hb dL_law_560 (by decide) (fun _ => ?_) (fun h => ?_)
  · exact law_nxt l hL hx hb hr hml hown hts hX hbl hlocks hL6 hS hl
  · exact absurd (Int32.toInt_inj.mp (by have := ir1.1; have := ir1.2; have := ir2.1; have := ir2.2; omega)) h
set_option maxHeartbeats 8000000 in
set_option maxRecDepth 100000 in
theorem law_c9 {p : Program} {e : Env} {s : State} {m : MethodId} {below : List Frame} {meth : Method} {c : Code} (l : Launch) {b L : Nat} {xs : Nat → Int32} (hL : L ≤ 6) (hx : p.tables.exec = Jvm.exec) (hb : c.code = code) (hr : meth.sig.returnType = ret) (hml : c.maxLocals = 4) (hown : s.vm.findClass RL = some m.cls) (hts : ∀ w ∈ wq, w.before #[Value.ref b] s = true) (hX : va_X b L xs s s.heap) (hbl : b < s.heap.size) (hlocks : meth.locks = false) (hL6 : L = 6) {D : va_G} {c0 : Nat → ClassId} {Y1 Y2 : Nat → Option Nat} {o1 o2 : Nat} {H : Heap} {locs : List Loc} {ls : Array Slot} (hK : va_K D vwCl (tysOf c0) s) (hN : nwA s) (hdis : ∀ q, pA Y1 q → pA Y2 q → False) (hT1 : TI D vwCl (tysOf c0) (RT1 false) Y1 H) (hy1 : Y1 o1 = some 9) (hA1 : ∀ q, pA Y1 q → s.heap.size ≤ q) (hT2 : TI D vwCl (tysOf c0) (RT1 false) Y2 H) (hy2 : Y2 o2 = some 10) (hA2 : ∀ q, pA Y2 q → s.heap.size ≤ q) (hS : va_S (fun q : Nat => s.heap.size ≤ q) s.heap H locs) (hl : lv_has ls 4 [(3, .int 0), (2, .ref o2), (1, .ref o1), (0, .ref b)]) : W p l e room_1 s m #[Value.ref b] below meth c H locs 188 7230 (lw_Z below #[Value.ref b] s) (F0 m 565 ls []) := by
  have hbA : ¬ (fun q : Nat => s.heap.size ≤ q) b := Nat.not_le.mpr hbl
  have hin : ∀ {i : Int32} {k : Int}, iv i k k → (decide (0 ≤ k) && decide (k < 6)) = true → vp_in i L := fun h1 h2 => by rw [hL6]; exact iv_in h1 (by simpa using h2)
  refine lv_aload_n hx hb dL_law_565 rfl (lv_at hl 2 rfl) ?_
  refine ti_calli (va_runV (As := []) (rest := []) ⟨hx, hb, hml, hown, hts⟩ (t_X9_tops l hT1 hy1 ) (cwV 0 hts (good_V kw_566 kw_567 kw_568 kw_2 kw_569) rfl rfl rfl (by decide +kernel) ⟨by decide, by decide⟩) (ti_preV hK hT1 hy1 rfl rfl) rfl rfl hl.1 rfl (lv_room (Nat.le_of_ble_eq_true rfl)) dL_law_566 ⟨by decide, by decide⟩) hS (fun q h => hA1 q h) (fun r1 H1 locs hB hS _ hk => ?_)
  obtain ⟨_, ir1⟩ := hB
  have hT2 := TI.frame hT2 hdis hk
  generalize H1 = H at hT2 hS ⊢
  refine lv_aload_n hx hb dL_law_569 rfl (lv_at hl 1 rfl) ?_
  refine ti_calli (va_runV (As := []) (rest := [.int r1]) ⟨hx, hb, hml, hown, hts⟩ (t_X10_tops l hT2 hy2 ) (cwV 0 hts (good_V kw_601 kw_602 kw_603 kw_5 kw_604) rfl rfl rfl (by decide +kernel) ⟨by decide, by decide⟩) (ti_preV hK hT2 hy2 rfl rfl) rfl rfl hl.1 rfl (lv_room (Nat.le_of_ble_eq_true rfl)) dL_law_570 ⟨by decide, by decide⟩) hS (fun q h => hA2 q h) (fun r2 H1 locs hB hS _ hk => ?_)
  obtain ⟨_, ir2⟩ := hB
  generalize H1 = H at hS ⊢
  refine lv_icmp_eq (tgt := 2019) hx hb dL_law_573 (by decide) (fun _ => ?_) (fun h => ?_)
  · exact law_nxt l hL hx hb hr hml hown hts hX hbl hlocks hL6 hS hl
  · exact absurd (Int32.toInt_inj.mp (by have := ir1.1; have := ir1.2; have := ir2.1; have := ir2.2; omega)) h
