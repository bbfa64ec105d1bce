set_option maxHeartbeats 8000000 in
set_option maxRecDepth 100000 in
theorem law_c10 {p : Program} {e : Env} {s : State} {m : MethodId} {below : List Frame} {meth : Method} {c : Code} (l : Launch) {b L : Nat} {xs : Nat → Int32} (hL : L ≤ 6) (hx : p.tables.exec = Jvm.exec) (hb : c.code = code) (hr : meth.sig.returnType = ret) (hml : c.maxLocals = 4) (hown : s.vm.findClass RL = some m.cls) (hts : ∀ w ∈ wq, w.before #[Value.ref b] s = true) (hX : va_X b L xs s s.heap) (hbl : b < s.heap.size) (hlocks : meth.locks = false) (hL6 : L = 6) {D : va_G} {c0 : Nat → ClassId} {Y1 Y2 : Nat → Option Nat} {o1 o2 : Nat} {H : Heap} {locs : List Loc} {ls : Array Slot} (hK : va_K D vwCl (tysOf c0) s) (hN : nwA s) (hdis : ∀ q, pA Y1 q → pA Y2 q → False) (hT1 : TI D vwCl (tysOf c0) (RT1 false) Y1 H) (hy1 : Y1 o1 = some 9) (hA1 : ∀ q, pA Y1 q → s.heap.size ≤ q) (hT2 : TI D vwCl (tysOf c0) (RT1 false) Y2 H) (hy2 : Y2 o2 = some 10) (hA2 : ∀ q, pA Y2 q → s.heap.size ≤ q) (hS : va_S (fun q : Nat => s.heap.size ≤ q) s.heap H locs) (hl : lv_has ls 4 [(3, .int 0), (2, .ref o2), (1, .ref o1), (0, .ref b)]) : W p l e room_1 s m #[Value.ref b] below meth c H locs 188 7230 (lw_Z below #[Value.ref b] s) (F0 m 578 ls []) := by
  have hbA : ¬ (fun q : Nat => s.heap.size ≤ q) b := Nat.not_le.mpr hbl
  have hin : ∀ {i : Int32} {k : Int}, iv i k k → (decide (0 ≤ k) && decide (k < 6)) = true → vp_in i L := fun h1 h2 => by rw [hL6]; exact iv_in h1 (by simpa using h2)
  refine lv_aload_n hx hb dL_law_578 rfl (lv_at hl 2 rfl) ?_
  refine ti_calli (va_runV (As := []) (rest := []) ⟨hx, hb, hml, hown, hts⟩ (t_X9_next l hT1 hy1 ) (cwV 0 hts (good_V kw_620 kw_621 kw_622 kw_2 kw_623) rfl rfl rfl (by decide +kernel) ⟨by decide, by decide⟩) (ti_preV hK hT1 hy1 rfl rfl) rfl rfl hl.1 rfl (lv_room (Nat.le_of_ble_eq_true rfl)) dL_law_579 ⟨by decide, by decide⟩) hS (fun q h => hA1 q h) (fun r1 H1 locs hB hS _ hk => ?_)
  obtain ⟨_, ir1⟩ := hB
  have hT2 := TI.frame hT2 hdis hk
  generalize H1 = H at hT2 hS ⊢
  refine lv_aload_n hx hb dL_law_582 rfl (lv_at hl 1 rfl) ?_
  refine ti_calli (va_runV (As := []) (rest := [.int r1]) ⟨hx, hb, hml, hown, hts⟩ (t_X10_next l hT2 hy2 ) (cwV 0 hts (good_V kw_625 kw_626 kw_627 kw_5 kw_628) rfl rfl rfl (by decide +kernel) ⟨by decide, by decide⟩) (ti_preV hK hT2 hy2 rfl rfl) rfl rfl hl.1 rfl (lv_room (Nat.le_of_ble_eq_true rfl)) dL_law_583 ⟨by decide, by decide⟩) hS (fun q h => hA2 q h) (fun r2 H1 locs hB hS _ hk => ?_)
  obtain ⟨_, ir2⟩ := hB
  generalize H1 = H at hS ⊢
  refine lv_icmp_eq (tgt := 2019) hx hb dL_law_586 (by decide) (fun _ => ?_) (fun h => ?_)
  · exact law_nxt l hL hx hb hr hml hown hts hX hbl hlocks hL6 hS hl
  · exact absurd (Int32.toInt_inj.mp (by have := ir1.1; have := ir1.2; have := ir2.1; have := ir2.2; omega)) h
set_option maxHeartbeats 8000000 in
set_option maxRecDepth 100000 in
theorem law_c11 {p : Program} {e : Env} {s : State} {m : MethodId} {below : List Frame} {meth : Method} {c : Code} (l : Launch) {b L : Nat} {xs : Nat → Int32} (hL : L ≤ 6) (hx : p.tables.exec = Jvm.exec) (hb : c.code = code) (hr : meth.sig.returnType = ret) (hml : c.maxLocals = 4) (hown : s.vm.findClass RL = some m.cls) (hts : ∀ w ∈ wq, w.before #[Value.ref b] s = true) (hX : va_X b L xs s s.heap) (hbl : b < s.heap.size) (hlocks : meth.locks = false) (hL6 : L = 6) {D : va_G} {c0 : Nat → ClassId} {Y1 Y2 : Nat → Option Nat} {o1 o2 : Nat} {H : Heap} {locs : List Loc} {ls : Array Slot} (hK : va_K D vwCl (tysOf c0) s) (hN : nwA s) (hdis : ∀ q, pA Y1 q → pA Y2 q → False) (hT1 : TI D vwCl (tysOf c0) (RT1 false) Y1 H) (hy1 : Y1 o1 = some 9) (hA1 : ∀ q, pA Y1 q → s.heap.size ≤ q) (hT2 : TI D vwCl (tysOf c0) (RT1 false) Y2 H) (hy2 : Y2 o2 = some 10) (hA2 : ∀ q, pA Y2 q → s.heap.size ≤ q) (hS : va_S (fun q : Nat => s.heap.size ≤ q) s.heap H locs) (hl : lv_has ls 4 [(3, .int 0), (2, .ref o2), (1, .ref o1), (0, .ref b)]) : W p l e room_1 s m #[Value.ref b] below meth c H locs 188 7230 (lw_Z below #[Value.ref b] s) (F0 m 591 ls []) := by
  have hbA : ¬ (fun q : Nat => s.heap.size ≤ q) b := Nat.not_le.mpr hbl
  have hin : ∀ {i : Int32} {k : Int}, iv i k k → (decide (0 ≤ k) && decide (k < 6)) = true → vp_in i L := fun h1 h2 => by rw [hL6]; exact iv_in h1 (by simpa using h2)
  refine lv_aload_n hx hb dL_law_591 rfl (lv_at hl 2 rfl) ?_
  refine lv_aload_n hx hb dL_law_592 rfl (lv_at hl 3 rfl) ?_
  refine lv_iload_n hx hb dL_law_593 rfl (lv_at hl 0 rfl) ?_
  refine lv_iconst (v := 1) hx hb dL_law_594 (by decide) ?_
  refine lv_iadd hx hb dL_law_595 ?_
  refine lv_topi (fun w9 e9 => ?_)
  obtain rfl : w9 = 1 := e9.trans (by decide)
  refine va_sld hx hb hX hbl hbA hS (hin (iv_c (x := (1 : Int32)) (k := 1) (by decide)) (by decide)) dL_law_596 ?_
  refine ti_calli (va_runV (As := [.int (xs (1 : Int32).toNatClampNeg)]) (rest := []) ⟨hx, hb, hml, hown, hts⟩ (t_X9_loses l hT1 hy1 (iv_top _)) (cwV 1 hts (good_V kw_633 kw_634 kw_635 kw_2 kw_636) rfl rfl rfl (by decide +kernel) ⟨by decide, by decide⟩) (ti_preV hK hT1 hy1 rfl rfl) rfl rfl hl.1 rfl (lv_room (Nat.le_of_ble_eq_true rfl)) dL_law_597 ⟨by decide, by decide⟩) hS (fun q h => hA1 q h) (fun r1 H1 locs hB hS _ hk => ?_)
  obtain ⟨_, ir1⟩ := hB
  have hT2 := TI.frame hT2 hdis hk
  generalize H1 = H at hT2 hS ⊢
  refine lv_aload_n hx hb dL_law_600 rfl (lv_at hl 1 rfl) ?_
  refine lv_aload_n hx hb dL_law_601 rfl (lv_at hl 3 rfl) ?_
  refine lv_iload_n hx hb dL_law_602 rfl (lv_at hl 0 rfl) ?_
  refine lv_iconst (v := 1) hx hb dL_law_603 (by decide) ?_
  refine lv_iadd hx hb dL_law_604 ?_
  refine lv_topi (fun w9 e9 => ?_)
  obtain rfl : w9 = 1 := e9.trans (by decide)
  refine va_sld hx hb hX hbl hbA hS (hin (iv_c (x := (1 : Int32)) (k := 1) (by decide)) (by decide)) dL_law_605 ?_
  refine ti_calli (va_runV (As := [.int (xs (1 : Int32).toNatClampNeg)]) (rest := [.int r1]) ⟨hx, hb, hml, hown, hts⟩ (t_X10_loses l hT2 hy2 (iv_top _)) (cwV 1 hts (good_V kw_641 kw_642 kw_643 kw_5 kw_644) rfl rfl rfl (by decide +kernel) ⟨by decide, by decide⟩) (ti_preV hK hT2 hy2 rfl rfl) rfl rfl hl.1 rfl (lv_room (Nat.le_of_ble_eq_true rfl)) dL_law_606 ⟨by decide, by decide⟩) hS (fun q h => hA2 q h) (fun r2 H1 locs hB hS _ hk => ?_)
  obtain ⟨_, ir2⟩ := hB
  generalize H1 = H at hS ⊢
  refine lv_icmp_eq (tgt := 2019) hx hb dL_law_609 (by decide) (fun _ => ?_) (fun h => ?_)
  · exact law_nxt l hL hx hb hr hml hown hts hX hbl hlocks hL6 hS hl
  · exact absurd (Int32.toInt_inj.mp (by have := ir1.1; have := ir1.2; have := ir2.1; have := ir2.2; omega)) h
set_option maxHeartbeats 8000000 in
set_option maxRecDepth 100000 in
theorem law_c12 {p : Program} {e : Env} {s : State} {m : MethodId} {below : List Frame} {meth : Method} {c : Code} (l : Launch) {b L : Nat} {xs : Nat → Int32} (hL : L ≤ 6) (hx : p.tables.exec = Jvm.exec) (hb : c.code = code) (hr : meth.sig.returnType = ret) (hml : c.maxLocals = 4) (hown : s.vm.findClass RL = some m.cls) (hts : ∀ w ∈ wq, w.before #[Value.ref b] s = true) (hX : va_X b L xs s s.heap) (hbl : b < s.heap.size) (hlocks : meth.locks = false) (hL6 : L = 6) {D : va_G} {c0 : Nat → ClassId} {Y1 Y2 : Nat → Option Nat} {o1 o2 : Nat} {H : Heap} {locs : List Loc} {ls : Array Slot} (hK : va_K D vwCl (tysOf c0) s) (hN : nwA s) (hdis : ∀ q, pA Y1 q → pA Y2 q → False) (hT1 : TI D vwCl (tysOf c0) (RT1 false) Y1 H) (hy1 : Y1 o1 = some 9) (hA1 : ∀ q, pA Y1 q → s.heap.size ≤ q) (hT2 : TI D vwCl (tysOf c0) (RT1 false) Y2 H) (hy2 : Y2 o2 = some 10) (hA2 : ∀ q, pA Y2 q → s.heap.size ≤ q) (hS : va_S (fun q : Nat => s.heap.size ≤ q) s.heap H locs) (hl : lv_has ls 4 [(3, .int 0), (2, .ref o2), (1, .ref o1), (0, .ref b)]) : W p l e room_1 s m #[Value.ref b] below meth c H locs 188 7230 (lw_Z below #[Value.ref b] s) (F0 m 614 ls []) := by
  have hbA : ¬ (fun q : Nat => s.heap.size ≤ q) b := Nat.not_le.mpr hbl
  have hin : ∀ {i : Int32} {k : Int}, iv i k k → (decide (0 ≤ k) && decide (k < 6)) = true → vp_in i L := fun h1 h2 => by rw [hL6]; exact iv_in h1 (by simpa using h2)
  refine lv_aload_n hx hb dL_law_614 rfl (lv_at hl 2 rfl) ?_
  refine ti_calli (va_runV (As := []) (rest := []) ⟨hx, hb, hml, hown, hts⟩ (t_X9_stroke l hT1 hy1 ) (cwV 0 hts (good_V kw_656 kw_657 kw_658 kw_2 kw_659) rfl rfl rfl (by decide +kernel) ⟨by decide, by decide⟩) (ti_preV hK hT1 hy1 rfl rfl) rfl rfl hl.1 rfl (lv_room (Nat.le_of_ble_eq_true rfl)) dL_law_615 ⟨by decide, by decide⟩) hS (fun q h => hA1 q h) (fun r1 H1 locs hB hS _ hk => ?_)
  obtain ⟨_, ir1⟩ := hB
  have hT2 := TI.frame hT2 hdis hk
  generalize H1 = H at hT2 hS ⊢
  refine lv_aload_n hx hb dL_law_618 rfl (lv_at hl 1 rfl) ?_
  refine ti_calli (va_runV (As := []) (rest := [.int r1]) ⟨hx, hb, hml, hown, hts⟩ (t_X10_stroke l hT2 hy2 ) (cwV 0 hts (good_V kw_715 kw_716 kw_717 kw_5 kw_718) rfl rfl rfl (by decide +kernel) ⟨by decide, by decide⟩) (ti_preV hK hT2 hy2 rfl rfl) rfl rfl hl.1 rfl (lv_room (Nat.le_of_ble_eq_true rfl)) dL_law_619 ⟨by decide, by decide⟩) hS (fun q h => hA2 q h) (fun r2 H1 locs hB hS _ hk => ?_)
  obtain ⟨_, ir2⟩ := hB
  generalize H1 = H at hS ⊢
  refine lv_icmp_eq (tgt := 2019) hx hb dL_law_622 (by decide) (fun _ => ?_) (fun h => ?_)
  · exact law_nxt l hL hx hb hr hml hown hts hX hbl hlocks hL6 hS hl
  · exact absurd (Int32.toInt_inj.mp (by have := ir1.1; have := ir1.2; have := ir2.1; have := ir2.2; omega)) h
set_option maxHeartbeats 8000000 in
set_option maxRecDepth 100000 in
theorem law_c13 {p : Program} {e : Env} {s : State} {m : MethodId} {below : List Frame} {meth : Method} {c : Code} (l : Launch) {b L : Nat} {xs : Nat → Int32} (hL : L ≤ 6) (hx : p.tables.exec = Jvm.exec) (hb : c.code = code) (hr : meth.sig.returnType = ret) (hml : c.maxLocals = 4) (hown : s.vm.findClass RL = some m.cls) (hts : ∀ w ∈ wq, w.before #[Value.ref b] s = true) (hX : va_X b L xs s s.heap) (hbl : b < s.heap.size) (hlocks : meth.locks = false) (hL6 : L = 6) {D : va_G} {c0 : Nat → ClassId} {Y1 Y2 : Nat → Option Nat} {o1 o2 : Nat} {H : Heap} {locs : List Loc} {ls : Array Slot} (hK : va_K D vwCl (tysOf c0) s) (hN : nwA s) (hdis : ∀ q, pA Y1 q → pA Y2 q → False) (hT1 : TI D vwCl (tysOf c0) (RT1 false) Y1 H) (hy1 : Y1 o1 = some 9) (hA1 : ∀ q, pA Y1 q → s.heap.size ≤ q) (hT2 : TI D vwCl (tysOf c0) (RT1 false) Y2 H) (hy2 : Y2 o2 = some 10) (hA2 : ∀ q, pA Y2 q → s.heap.size ≤ q) (hS : va_S (fun q : Nat => s.heap.size ≤ q) s.heap H locs) (hl : lv_has ls 4 [(3, .int 0), (2, .ref o2), (1, .ref o1), (0, .ref b)]) : W p l e room_1 s m #[Value.ref b] below meth c H locs 188 7230 (lw_Z below #[Value.ref b] s) (F0 m 627 ls []) := by
  have hbA : ¬ (fun q : Nat => s.heap.size ≤ q) b := Nat.not_le.mpr hbl
  have hin : ∀ {i : Int32} {k : Int}, iv i k k → (decide (0 ≤ k) && decide (k < 6)) = true → vp_in i L := fun h1 h2 => by rw [hL6]; exact iv_in h1 (by simpa using h2)
  refine lv_aload_n hx hb dL_law_627 rfl (lv_at hl 2 rfl) ?_
  refine lv_aload_n hx hb dL_law_628 rfl (lv_at hl 3 rfl) ?_
  refine lv_iload_n hx hb dL_law_629 rfl (lv_at hl 0 rfl) ?_
  refine lv_iconst (v := 1) hx hb dL_law_630 (by decide) ?_
  refine lv_iadd hx hb dL_law_631 ?_
  refine lv_topi (fun w9 e9 => ?_)
  obtain rfl : w9 = 1 := e9.trans (by decide)
  refine va_sld hx hb hX hbl hbA hS (hin (iv_c (x := (1 : Int32)) (k := 1) (by decide)) (by decide)) dL_law_632 ?_
  refine lv_aload_n hx hb dL_law_633 rfl (lv_at hl 3 rfl) ?_
  refine lv_iload_n hx hb dL_law_634 rfl (lv_at hl 0 rfl) ?_
  refine lv_iconst (v := 2) hx hb dL_law_635 (by decide) ?_
  refine lv_iadd hx hb dL_law_636 ?_
  refine lv_topi (fun w9 e9 => ?_)
  obtain rfl : w9 = 2 := e9.trans (by decide)
  refine va_sld hx hb hX hbl hbA hS (hin (iv_c (x := (2 : Int32)) (k := 2) (by decide)) (by decide)) dL_law_637 ?_
  refine lv_aload_n hx hb dL_law_638 rfl (lv_at hl 3 rfl) ?_
  refine lv_iload_n hx hb dL_law_639 rfl (lv_at hl 0 rfl) ?_
  refine lv_iconst (v := 3) hx hb dL_law_640 (by decide) ?_
  refine lv_iadd hx hb dL_law_641 ?_
  refine lv_topi (fun w9 e9 => ?_)
  obtain rfl : w9 = 3 := e9.trans (by decide)
  refine va_sld hx hb hX hbl hbA hS (hin (iv_c (x := (3 : Int32)) (k := 3) (by decide)) (by decide)) dL_law_642 ?_
  refine lv_aload_n hx hb dL_law_643 rfl (lv_at hl 3 rfl) ?_
  refine lv_iload_n hx hb dL_law_644 rfl (lv_at hl 0 rfl) ?_
  refine lv_iconst (v := 4) hx hb dL_law_645 (by decide) ?_
  refine lv_iadd hx hb dL_law_646 ?_
  refine lv_topi (fun w9 e9 => ?_)
  obtain rfl : w9 = 4 := e9.trans (by decide)
  refine va_sld hx hb hX hbl hbA hS (hin (iv_c (x := (4 : Int32)) (k := 4) (by decide)) (by decide)) dL_law_647 ?_
  refine lv_aload_n hx hb dL_law_648 rfl (lv_at hl 3 rfl) ?_
  refine lv_iload_n hx hb dL_law_649 rfl (lv_at hl 0 rfl) ?_
  refine lv_iconst (v := 5) hx hb dL_law_650 (by decide) ?_
  refine lv_iadd hx hb dL_law_651 ?_
  refine lv_topi (fun w9 e9 => ?_)
  obtain rfl : w9 = 5 := e9.trans (by decide)
  refine va_sld hx hb hX hbl hbA hS (hin (iv_c (x := (5 : Int32)) (k := 5) (by decide)) (by decide)) dL_law_652 ?_
  refine ti_calli (va_runV (As := [.int (xs (1 : Int32).toNatClampNeg), .int (xs (2 : Int32).toNatClampNeg), .int (xs (3 : Int32).toNatClampNeg), .int (xs (4 : Int32).toNatClampNeg), .int (xs (5 : Int32).toNatClampNeg)]) (rest := []) ⟨hx, hb, hml, hown, hts⟩ (t_X9_act l hT1 hy1 (iv_top _) (iv_top _) (iv_top _) (iv_top _) (iv_top _)) (cwV 5 hts (good_V kw_752 kw_753 kw_754 kw_2 kw_755) rfl rfl rfl (by decide +kernel) ⟨by decide, by decide⟩) (ti_preV hK hT1 hy1 rfl rfl) rfl rfl hl.1 rfl (lv_room (Nat.le_of_ble_eq_true rfl)) dL_law_653 ⟨by decide, by decide⟩) hS (fun q h => hA1 q h) (fun r1 H1 locs hB hS _ hk => ?_)
  obtain ⟨_, ir1⟩ := hB
  have hT2 := TI.frame hT2 hdis hk
  generalize H1 = H at hT2 hS ⊢
  refine lv_aload_n hx hb dL_law_656 rfl (lv_at hl 1 rfl) ?_
  refine lv_aload_n hx hb dL_law_657 rfl (lv_at hl 3 rfl) ?_
  refine lv_iload_n hx hb dL_law_658 rfl (lv_at hl 0 rfl) ?_
  refine lv_iconst (v := 1) hx hb dL_law_659 (by decide) ?_
  refine lv_iadd hx hb dL_law_660 ?_
  refine lv_topi (fun w9 e9 => ?_)
  obtain rfl : w9 = 1 := e9.trans (by decide)
  refine va_sld hx hb hX hbl hbA hS (hin (iv_c (x := (1 : Int32)) (k := 1) (by decide)) (by decide)) dL_law_661 ?_
  refine lv_aload_n hx hb dL_law_662 rfl (lv_at hl 3 rfl) ?_
  refine lv_iload_n hx hb dL_law_663 rfl (lv_at hl 0 rfl) ?_
  refine lv_iconst (v := 2) hx hb dL_law_664 (by decide) ?_
  refine lv_iadd hx hb dL_law_665 ?_
  refine lv_topi (fun w9 e9 => ?_)
  obtain rfl : w9 = 2 := e9.trans (by decide)
  refine va_sld hx hb hX hbl hbA hS (hin (iv_c (x := (2 : Int32)) (k := 2) (by decide)) (by decide)) dL_law_666 ?_
  refine lv_aload_n hx hb dL_law_667 rfl (lv_at hl 3 rfl) ?_
  refine lv_iload_n hx hb dL_law_668 rfl (lv_at hl 0 rfl) ?_
  refine lv_iconst (v := 3) hx hb dL_law_669 (by decide) ?_
  refine lv_iadd hx hb dL_law_670 ?_
  refine lv_topi (fun w9 e9 => ?_)
  obtain rfl : w9 = 3 := e9.trans (by decide)
  refine va_sld hx hb hX hbl hbA hS (hin (iv_c (x := (3 : Int32)) (k := 3) (by decide)) (by decide)) dL_law_671 ?_
  refine lv_aload_n hx hb dL_law_672 rfl (lv_at hl 3 rfl) ?_
  refine lv_iload_n hx hb dL_law_673 rfl (lv_at hl 0 rfl) ?_
  refine lv_iconst (v := 4) hx hb dL_law_674 (by decide) ?_
  refine lv_iadd hx hb dL_law_675 ?_
  refine lv_topi (fun w9 e9 => ?_)
  obtain rfl : w9 = 4 := e9.trans (by decide)
  refine va_sld hx hb hX hbl hbA hS (hin (iv_c (x := (4 : Int32)) (k := 4) (by decide)) (by decide)) dL_law_676 ?_
  refine lv_aload_n hx hb dL_law_677 rfl (lv_at hl 3 rfl) ?_
  refine lv_iload_n hx hb dL_law_678 rfl (lv_at hl 0 rfl) ?_
  refine lv_iconst (v := 5) hx hb dL_law_679 (by decide) ?_
  refine lv_iadd hx hb dL_law_680 ?_
  refine lv_topi (fun w9 e9 => ?_)
  obtain rfl : w9 = 5 := e9.trans (by decide)
  refine va_sld hx hb hX hbl hbA hS (hin (iv_c (x := (5 : Int32)) (k := 5) (by decide)) (by decide)) dL_law_681 ?_
  refine ti_calli (va_runV (As := [.int (xs (1 : Int32).toNatClampNeg), .int (xs (2 : Int32).toNatClampNeg), .int (xs (3 : Int32).toNatClampNeg), .int (xs (4 : Int32).toNatClampNeg), .int (xs (5 : Int32).toNatClampNeg)]) (rest := [.int r1]) ⟨hx, hb, hml, hown, hts⟩ (t_X10_act l hT2 hy2 (iv_top _) (iv_top _) (iv_top _) (iv_top _) (iv_top _)) (cwV 5 hts (good_V kw_775 kw_776 kw_777 kw_5 kw_778) rfl rfl rfl (by decide +kernel) ⟨by decide, by decide⟩) (ti_preV hK hT2 hy2 rfl rfl) rfl rfl hl.1 rfl (lv_room (Nat.le_of_ble_eq_true rfl)) dL_law_682 ⟨by decide, by decide⟩) hS (fun q h => hA2 q h) (fun r2 H1 locs hB hS _ hk => ?_)
  obtain ⟨_, ir2⟩ := hB
  generalize H1 = H at hS ⊢
  refine lv_icmp_eq (tgt := 2019) hx hb dL_law_685 (by decide) (fun _ => ?_) (fun h => ?_)
  · exact law_nxt l hL hx hb hr hml hown hts hX hbl hlocks hL6 hS hl
  · exact absurd (Int32.toInt_inj.mp (by have := ir1.1; have := ir1.2; have := ir2.1; have := ir2.2; omega)) h
set_option maxHeartbeats 8000000 in
set_option maxRecDepth 100000 in
theorem law_c14 {p : Program} {e : Env} {s : State} {m : MethodId} {below : List Frame} {meth : Method} {c : Code} (l : Launch) {b L : Nat} {xs : Nat → Int32} (hL : L ≤ 6) (hx : p.tables.exec = Jvm.exec) (hb : c.code = code) (hr : meth.sig.returnType = ret) (hml : c.maxLocals = 4) (hown : s.vm.findClass RL = some m.cls) (hts : ∀ w ∈ wq, w.before #[Value.ref b] s = true) (hX : va_X b L xs s s.heap) (hbl : b < s.heap.size) (hlocks : meth.locks = false) (hL6 : L = 6) {D : va_G} {c0 : Nat → ClassId} {Y1 Y2 : Nat → Option Nat} {o1 o2 : Nat} {H : Heap} {locs : List Loc} {ls : Array Slot} (hK : va_K D vwCl (tysOf c0) s) (hN : nwA s) (hdis : ∀ q, pA Y1 q → pA Y2 q → False) (hT1 : TI D vwCl (tysOf c0) (RT1 false) Y1 H) (hy1 : Y1 o1 = some 9) (hA1 : ∀ q, pA Y1 q → s.heap.size ≤ q) (hT2 : TI D vwCl (tysOf c0) (RT1 false) Y2 H) (hy2 : Y2 o2 = some 10) (hA2 : ∀ q, pA Y2 q → s.heap.size ≤ q) (hS : va_S (fun q : Nat => s.heap.size ≤ q) s.heap H locs) (hl : lv_has ls 4 [(3, .int 0), (2, .ref o2), (1, .ref o1), (0, .ref b)]) : W p l e room_1 s m #[Value.ref b] below meth c H locs 188 7230 (lw_Z below #[Value.ref b] s) (F0 m 690 ls []) := by
  have hbA : ¬ (fun q : Nat => s.heap.size ≤ q) b := Nat.not_le.mpr hbl
  have hin : ∀ {i : Int32} {k : Int}, iv i k k → (decide (0 ≤ k) && decide (k < 6)) = true → vp_in i L := fun h1 h2 => by rw [hL6]; exact iv_in h1 (by simpa using h2)
  refine lv_aload_n hx hb dL_law_690 rfl (lv_at hl 2 rfl) ?_
  refine lv_aload_n hx hb dL_law_691 rfl (lv_at hl 3 rfl) ?_
  refine lv_iload_n hx hb dL_law_692 rfl (lv_at hl 0 rfl) ?_
  refine lv_iconst (v := 1) hx hb dL_law_693 (by decide) ?_
  refine lv_iadd hx hb dL_law_694 ?_
  refine lv_topi (fun w9 e9 => ?_)
  obtain rfl : w9 = 1 := e9.trans (by decide)
  refine va_sld hx hb hX hbl hbA hS (hin (iv_c (x := (1 : Int32)) (k := 1) (by decide)) (by decide)) dL_law_695 ?_
  refine ti_calli (va_runV (As := [.int (xs (1 : Int32).toNatClampNeg)]) (rest := []) ⟨hx, hb, hml, hown, hts⟩ (t_X9_judge l hT1 hy1 (iv_top _)) (cwV 1 hts (good_V kw_795 kw_796 kw_797 kw_2 kw_798) rfl rfl rfl (by decide +kernel) ⟨by decide, by decide⟩) (ti_preV hK hT1 hy1 rfl rfl) rfl rfl hl.1 rfl (lv_room (Nat.le_of_ble_eq_true rfl)) dL_law_696 ⟨by decide, by decide⟩) hS (fun q h => hA1 q h) (fun r1 H1 locs hB hS _ hk => ?_)
  obtain ⟨_, pr1⟩ := hB
  have hT2 := TI.frame hT2 hdis hk
  generalize H1 = H at hT2 hS ⊢
  refine lv_aload_n hx hb dL_law_699 rfl (lv_at hl 1 rfl) ?_
  refine lv_aload_n hx hb dL_law_700 rfl (lv_at hl 3 rfl) ?_
  refine lv_iload_n hx hb dL_law_701 rfl (lv_at hl 0 rfl) ?_
  refine lv_iconst (v := 1) hx hb dL_law_702 (by decide) ?_
  refine lv_iadd hx hb dL_law_703 ?_
  refine lv_topi (fun w9 e9 => ?_)
  obtain rfl : w9 = 1 := e9.trans (by decide)
  refine va_sld hx hb hX hbl hbA hS (hin (iv_c (x := (1 : Int32)) (k := 1) (by decide)) (by decide)) dL_law_704 ?_
  refine ti_calli (va_runV (As := [.int (xs (1 : Int32).toNatClampNeg)]) (rest := [.int r1]) ⟨hx, hb, hml, hown, hts⟩ (t_X10_judge l hT2 hy2 (iv_top _)) (cwV 1 hts (good_V kw_810 kw_811 kw_812 kw_5 kw_813) rfl rfl rfl (by decide +kernel) ⟨by decide, by decide⟩) (ti_preV hK hT2 hy2 rfl rfl) rfl rfl hl.1 rfl (lv_room (Nat.le_of_ble_eq_true rfl)) dL_law_705 ⟨by decide, by decide⟩) hS (fun q h => hA2 q h) (fun r2 H1 locs hB hS _ hk => ?_)
  obtain ⟨_, pr2⟩ := hB
  generalize H1 = H at hS ⊢
  refine lv_icmp_eq (tgt := 2019) hx hb dL_law_708 (by decide) (fun _ => ?_) (fun h => ?_)
  · exact law_nxt l hL hx hb hr hml hown hts hX hbl hlocks hL6 hS hl
  · exact absurd (Int32.toInt_inj.mp (by omega)) h
set_option maxHeartbeats 8000000 in
set_option maxRecDepth 100000 in
theorem law_c15 {p : Program} {e : Env} {s : State} {m : MethodId} {below : List Frame} {meth : Method} {c : Code} (l : Launch) {b L : Nat} {xs : Nat → Int32} (hL : L ≤ 6) (hx : p.tables.exec = Jvm.exec) (hb : c.code = code) (hr : meth.sig.returnType = ret) (hml : c.maxLocals = 4) (hown : s.vm.findClass RL = some m.cls) (hts : ∀ w ∈ wq, w.before #[Value.ref b] s = true) (hX : va_X b L xs s s.heap) (hbl : b < s.heap.size) (hlocks : meth.locks = false) (hL6 : L = 6) {D : va_G} {c0 : Nat → ClassId} {Y1 Y2 : Nat → Option Nat} {o1 o2 : Nat} {H : Heap} {locs : List Loc} {ls : Array Slot} (hK : va_K D vwCl (tysOf c0) s) (hN : nwA s) (hdis : ∀ q, pA Y1 q → pA Y2 q → False) (hT1 : TI D vwCl (tysOf c0) (RT1 false) Y1 H) (hy1 : Y1 o1 = some 9) (hA1 : ∀ q, pA Y1 q → s.heap.size ≤ q) (hT2 : TI D vwCl (tysOf c0) (RT1 false) Y2 H) (hy2 : Y2 o2 = some 10) (hA2 : ∀ q, pA Y2 q → s.heap.size ≤ q) (hS : va_S (fun q : Nat => s.heap.size ≤ q) s.heap H locs) (hl : lv_has ls 4 [(3, .int 0), (2, .ref o2), (1, .ref o1), (0, .ref b)]) : W p l e room_1 s m #[Value.ref b] below meth c H locs 188 7230 (lw_Z below #[Value.ref b] s) (F0 m 713 ls []) := by
  have hbA : ¬ (fun q : Nat => s.heap.size ≤ q) b := Nat.not_le.mpr hbl
  have hin : ∀ {i : Int32} {k : Int}, iv i k k → (decide (0 ≤ k) && decide (k < 6)) = true → vp_in i L := fun h1 h2 => by rw [hL6]; exact iv_in h1 (by simpa using h2)
  refine lv_aload_n hx hb dL_law_713 rfl (lv_at hl 2 rfl) ?_
  refine lv_aload_n hx hb dL_law_714 rfl (lv_at hl 3 rfl) ?_
  refine lv_iload_n hx hb dL_law_715 rfl (lv_at hl 0 rfl) ?_
  refine lv_iconst (v := 1) hx hb dL_law_716 (by decide) ?_
  refine lv_iadd hx hb dL_law_717 ?_
  refine lv_topi (fun w9 e9 => ?_)
  obtain rfl : w9 = 1 := e9.trans (by decide)
  refine va_sld hx hb hX hbl hbA hS (hin (iv_c (x := (1 : Int32)) (k := 1) (by decide)) (by decide)) dL_law_718 ?_
  refine ti_calli (va_runV (As := [.int (xs (1 : Int32).toNatClampNeg)]) (rest := []) ⟨hx, hb, hml, hown, hts⟩ (t_X9_run l hT1 hy1 (iv_top _)) (cwV 1 hts (good_V kw_828 kw_829 kw_830 kw_2 kw_831) rfl rfl rfl (by decide +kernel) ⟨by decide, by decide⟩) (ti_preV hK hT1 hy1 rfl rfl) rfl rfl hl.1 rfl (lv_room (Nat.le_of_ble_eq_true rfl)) dL_law_719 ⟨by decide, by decide⟩) hS (fun q h => hA1 q h) (fun r1 H1 locs hB hS _ hk => ?_)
  obtain ⟨_, ir1⟩ := hB
  have hT2 := TI.frame hT2 hdis hk
  generalize H1 = H at hT2 hS ⊢
  refine lv_aload_n hx hb dL_law_722 rfl (lv_at hl 1 rfl) ?_
  refine lv_aload_n hx hb dL_law_723 rfl (lv_at hl 3 rfl) ?_
  refine lv_iload_n hx hb dL_law_724 rfl (lv_at hl 0 rfl) ?_
  refine lv_iconst (v := 1) hx hb dL_law_725 (by decide) ?_
  refine lv_iadd hx hb dL_law_726 ?_
  refine lv_topi (fun w9 e9 => ?_)
  obtain rfl : w9 = 1 := e9.trans (by decide)
  refine va_sld hx hb hX hbl hbA hS (hin (iv_c (x := (1 : Int32)) (k := 1) (by decide)) (by decide)) dL_law_727 ?_
  refine ti_calli (va_runV (As := [.int (xs (1 : Int32).toNatClampNeg)]) (rest := [.int r1]) ⟨hx, hb, hml, hown, hts⟩ (t_X10_run l hT2 hy2 (iv_top _)) (cwV 1 hts (good_V kw_931 kw_932 kw_933 kw_5 kw_934) rfl rfl rfl (by decide +kernel) ⟨by decide, by decide⟩) (ti_preV hK hT2 hy2 rfl rfl) rfl rfl hl.1 rfl (lv_room (Nat.le_of_ble_eq_true rfl)) dL_law_728 ⟨by decide, by decide⟩) hS (fun q h => hA2 q h) (fun r2 H1 locs hB hS _ hk => ?_)
  obtain ⟨_, ir2⟩ := hB
  generalize H1 = H at hS ⊢
  refine lv_icmp_eq (tgt := 2019) hx hb dL_law_731 (by decide) (fun _ => ?_) (fun h => ?_)
  · exact law_nxt l hL hx hb hr hml hown hts hX hbl hlocks hL6 hS hl
  · exact absurd (Int32.toInt_inj.mp (by have := ir1.1; have := ir1.2; have := ir2.1; have := ir2.2; omega)) h
set_option maxHeartbeats 8000000 in
set_option maxRecDepth 100000 in
theorem law_c16 {p : Program} {e : Env} {s : State} {m : MethodId} {below : List Frame} {meth : Method} {c : Code} (l : Launch) {b L : Nat} {xs : Nat → Int32} (hL : L ≤ 6) (hx : p.tables.exec = Jvm.exec) (hb : c.code = code) (hr : meth.sig.returnType = ret) (hml : c.maxLocals = 4) (hown : s.vm.findClass RL = some m.cls) (hts : ∀ w ∈ wq, w.before #[Value.ref b] s = true) (hX : va_X b L xs s s.heap) (hbl : b < s.heap.size) (hlocks : meth.locks = false) (hL6 : L = 6) {D : va_G} {c0 : Nat → ClassId} {Y1 Y2 : Nat → Option Nat} {o1 o2 : Nat} {H : Heap} {locs : List Loc} {ls : Array Slot} (hK : va_K D vwCl (tysOf c0) s) (hN : nwA s) (hdis : ∀ q, pA Y1 q → pA Y2 q → False) (hT1 : TI D vwCl (tysOf c0) (RT1 false) Y1 H) (hy1 : Y1 o1 = some 9) (hA1 : ∀ q, pA Y1 q → s.heap.size ≤ q) (hT2 : TI D vwCl (tysOf c0) (RT1 false) Y2 H) (hy2 : Y2 o2 = some 10) (hA2 : ∀ q, pA Y2 q → s.heap.size ≤ q) (hS : va_S (fun q : Nat => s.heap.size ≤ q) s.heap H locs) (hl : lv_has ls 4 [(3, .int 0), (2, .ref o2), (1, .ref o1), (0, .ref b)]) : W p l e room_1 s m #[Value.ref b] below meth c H locs 188 7230 (lw_Z below #[Value.ref b] s) (F0 m 736 ls []) := by
  have hbA : ¬ (fun q : Nat => s.heap.size ≤ q) b := Nat.not_le.mpr hbl
  have hin : ∀ {i : Int32} {k : Int}, iv i k k → (decide (0 ≤ k) && decide (k < 6)) = true → vp_in i L := fun h1 h2 => by rw [hL6]; exact iv_in h1 (by simpa using h2)
  refine lv_aload_n hx hb dL_law_736 rfl (lv_at hl 2 rfl) ?_
  refine lv_aload_n hx hb dL_law_737 rfl (lv_at hl 3 rfl) ?_
  refine lv_iload_n hx hb dL_law_738 rfl (lv_at hl 0 rfl) ?_
  refine lv_iconst (v := 1) hx hb dL_law_739 (by decide) ?_
  refine lv_iadd hx hb dL_law_740 ?_
  refine lv_topi (fun w9 e9 => ?_)
  obtain rfl : w9 = 1 := e9.trans (by decide)
  refine va_sld hx hb hX hbl hbA hS (hin (iv_c (x := (1 : Int32)) (k := 1) (by decide)) (by decide)) dL_law_741 ?_
  refine lv_aload_n hx hb dL_law_742 rfl (lv_at hl 3 rfl) ?_
  refine lv_iload_n hx hb dL_law_743 rfl (lv_at hl 0 rfl) ?_
  refine lv_iconst (v := 2) hx hb dL_law_744 (by decide) ?_
  refine lv_iadd hx hb dL_law_745 ?_
  refine lv_topi (fun w9 e9 => ?_)
  obtain rfl : w9 = 2 := e9.trans (by decide)
  refine va_sld hx hb hX hbl hbA hS (hin (iv_c (x := (2 : Int32)) (k := 2) (by decide)) (by decide)) dL_law_746 ?_
  refine lv_aload_n hx hb dL_law_747 rfl (lv_at hl 3 rfl) ?_
  refine lv_iload_n hx hb dL_law_748 rfl (lv_at hl 0 rfl) ?_
  refine lv_iconst (v := 3) hx hb dL_law_749 (by decide) ?_
  refine lv_iadd hx hb dL_law_750 ?_
  refine lv_topi (fun w9 e9 => ?_)
  obtain rfl : w9 = 3 := e9.trans (by decide)
  refine va_sld hx hb hX hbl hbA hS (hin (iv_c (x := (3 : Int32)) (k := 3) (by decide)) (by decide)) dL_law_751 ?_
  refine lv_aload_n hx hb dL_law_752 rfl (lv_at hl 3 rfl) ?_
  refine lv_iload_n hx hb dL_law_753 rfl (lv_at hl 0 rfl) ?_
  refine lv_iconst (v := 4) hx hb dL_law_754 (by decide) ?_
  refine lv_iadd hx hb dL_law_755 ?_
  refine lv_topi (fun w9 e9 => ?_)
  obtain rfl : w9 = 4 := e9.trans (by decide)
  refine va_sld hx hb hX hbl hbA hS (hin (iv_c (x := (4 : Int32)) (k := 4) (by decide)) (by decide)) dL_law_756 ?_
  refine lv_aload_n hx hb dL_law_757 rfl (lv_at hl 3 rfl) ?_
  refine lv_iload_n hx hb dL_law_758 rfl (lv_at hl 0 rfl) ?_
  refine lv_iconst (v := 5) hx hb dL_law_759 (by decide) ?_
  refine lv_iadd hx hb dL_law_760 ?_
  refine lv_topi (fun w9 e9 => ?_)
  obtain rfl : w9 = 5 := e9.trans (by decide)
  refine va_sld hx hb hX hbl hbA hS (hin (iv_c (x := (5 : Int32)) (k := 5) (by decide)) (by decide)) dL_law_761 ?_
  refine ti_calli (va_runV (As := [.int (xs (1 : Int32).toNatClampNeg), .int (xs (2 : Int32).toNatClampNeg), .int (xs (3 : Int32).toNatClampNeg), .int (xs (4 : Int32).toNatClampNeg), .int (xs (5 : Int32).toNatClampNeg)]) (rest := []) ⟨hx, hb, hml, hown, hts⟩ (t_X9_value l hT1 hy1 (iv_top _) (iv_top _) (iv_top _) (iv_top _) (iv_top _)) (cwV 5 hts (good_V kw_999 kw_1000 kw_1001 kw_2 kw_1002) rfl rfl rfl (by decide +kernel) ⟨by decide, by decide⟩) (ti_preV hK hT1 hy1 rfl rfl) rfl rfl hl.1 rfl (lv_room (Nat.le_of_ble_eq_true rfl)) dL_law_762 ⟨by decide, by decide⟩) hS (fun q h => hA1 q h) (fun r1 H1 locs hB hS _ hk => ?_)
  obtain ⟨_, ir1⟩ := hB
  have hT2 := TI.frame hT2 hdis hk
  generalize H1 = H at hT2 hS ⊢
  refine lv_aload_n hx hb dL_law_765 rfl (lv_at hl 1 rfl) ?_
  refine lv_aload_n hx hb dL_law_766 rfl (lv_at hl 3 rfl) ?_
  refine lv_iload_n hx hb dL_law_767 rfl (lv_at hl 0 rfl) ?_
  refine lv_iconst (v := 1) hx hb dL_law_768 (by decide) ?_
  refine lv_iadd hx hb dL_law_769 ?_
  refine lv_topi (fun w9 e9 => ?_)
  obtain rfl : w9 = 1 := e9.trans (by decide)
  refine va_sld hx hb hX hbl hbA hS (hin (iv_c (x := (1 : Int32)) (k := 1) (by decide)) (by decide)) dL_law_770 ?_
  refine lv_aload_n hx hb dL_law_771 rfl (lv_at hl 3 rfl) ?_
  refine lv_iload_n hx hb dL_law_772 rfl (lv_at hl 0 rfl) ?_
  refine lv_iconst (v := 2) hx hb dL_law_773 (by decide) ?_
  refine lv_iadd hx hb dL_law_774 ?_
  refine lv_topi (fun w9 e9 => ?_)
  obtain rfl : w9 = 2 := e9.trans (by decide)
  refine va_sld hx hb hX hbl hbA hS (hin (iv_c (x := (2 : Int32)) (k := 2) (by decide)) (by decide)) dL_law_775 ?_
  refine lv_aload_n hx hb dL_law_776 rfl (lv_at hl 3 rfl) ?_
  refine lv_iload_n hx hb dL_law_777 rfl (lv_at hl 0 rfl) ?_
  refine lv_iconst (v := 3) hx hb dL_law_778 (by decide) ?_
  refine lv_iadd hx hb dL_law_779 ?_
  refine lv_topi (fun w9 e9 => ?_)
  obtain rfl : w9 = 3 := e9.trans (by decide)
  refine va_sld hx hb hX hbl hbA hS (hin (iv_c (x := (3 : Int32)) (k := 3) (by decide)) (by decide)) dL_law_780 ?_
  refine lv_aload_n hx hb dL_law_781 rfl (lv_at hl 3 rfl) ?_
  refine lv_iload_n hx hb dL_law_782 rfl (lv_at hl 0 rfl) ?_
  refine lv_iconst (v := 4) hx hb dL_law_783 (by decide) ?_
  refine lv_iadd hx hb dL_law_784 ?_
  refine lv_topi (fun w9 e9 => ?_)
  obtain rfl : w9 = 4 := e9.trans (by decide)
  refine va_sld hx hb hX hbl hbA hS (hin (iv_c (x := (4 : Int32)) (k := 4) (by decide)) (by decide)) dL_law_785 ?_
  refine lv_aload_n hx hb dL_law_786 rfl (lv_at hl 3 rfl) ?_
  refine lv_iload_n hx hb dL_law_787 rfl (lv_at hl 0 rfl) ?_
  refine lv_iconst (v := 5) hx hb dL_law_788 (by decide) ?_
  refine lv_iadd hx hb dL_law_789 ?_
  refine lv_topi (fun w9 e9 => ?_)
  obtain rfl : w9 = 5 := e9.trans (by decide)
  refine va_sld hx hb hX hbl hbA hS (hin (iv_c (x := (5 : Int32)) (k := 5) (by decide)) (by decide)) dL_law_790 ?_
  refine ti_calli (va_runV (As := [.int (xs (1 : Int32).toNatClampNeg), .int (xs (2 : Int32).toNatClampNeg), .int (xs (3 : Int32).toNatClampNeg), .int (xs (4 : Int32).toNatClampNeg), .int (xs (5 : Int32).toNatClampNeg)]) (rest := [.int r1]) ⟨hx, hb, hml, hown, hts⟩ (t_X10_value l hT2 hy2 (iv_top _) (iv_top _) (iv_top _) (iv_top _) (iv_top _)) (cwV 5 hts (good_V kw_1009 kw_1010 kw_1011 kw_5 kw_1012) rfl rfl rfl (by decide +kernel) ⟨by decide, by decide⟩) (ti_preV hK hT2 hy2 rfl rfl) rfl rfl hl.1 rfl (lv_room (Nat.le_of_ble_eq_true rfl)) dL_law_791 ⟨by decide, by decide⟩) hS (fun q h => hA2 q h) (fun r2 H1 locs hB hS _ hk => ?_)
  obtain ⟨_, ir2⟩ := hB
  generalize H1 = H at hS ⊢
  refine lv_icmp_eq (tgt := 2019) hx hb dL_law_794 (by decide) (fun _ => ?_) (fun h => ?_)
  · exact law_nxt l hL hx hb hr hml hown hts hX hbl hlocks hL6 hS hl
  · exact absurd (Int32.toInt_inj.mp (by have := ir1.1; have := ir1.2; have := ir2.1; have := ir2.2; omega)) h
set_option maxHeartbeats 8000000 in
set_option maxRecDepth 100000 in
theorem law_c17 {p : Program} {e : Env} {s : State} {m : MethodId} {below : List Frame} {meth : Method} {c : Code} (l : Launch) {b L : Nat} {xs : Nat → Int32} (hL : L ≤ 6) (hx : p.tables.exec = Jvm.exec) (hb : c.code = code) (hr : meth.sig.returnType = ret) (hml : c.maxLocals = 4) (hown : s.vm.findClass RL = some m.cls) (hts : ∀ w ∈ wq, w.before #[Value.ref b] s = true) (hX : va_X b L xs s s.heap) (hbl : b < s.heap.size) (hlocks : meth.locks = false) (hL6 : L = 6) {D : va_G} {c0 : Nat → ClassId} {Y1 Y2 : Nat → Option Nat} {o1 o2 : Nat} {H : Heap} {locs : List Loc} {ls : Array Slot} (hK : va_K D vwCl (tysOf c0) s) (hN : nwA s) (hdis : ∀ q, pA Y1 q → pA Y2 q → False) (hT1 : TI D vwCl (tysOf c0) (RT1 false) Y1 H) (hy1 : Y1 o1 = some 9) (hA1 : ∀ q, pA Y1 q → s.heap.size ≤ q) (hT2 : TI D vwCl (tysOf c0) (RT1 false) Y2 H) (hy2 : Y2 o2 = some 10) (hA2 : ∀ q, pA Y2 q → s.heap.size ≤ q) (hS : va_S (fun q : Nat => s.heap.size ≤ q) s.heap H locs) (hl : lv_has ls 4 [(3, .int 0), (2, .ref o2), (1, .ref o1), (0, .ref b)]) : W p l e room_1 s m #[Value.ref b] below meth c H locs 188 7230 (lw_Z below #[Value.ref b] s) (F0 m 799 ls []) := by
  have hbA : ¬ (fun q : Nat => s.heap.size ≤ q) b := Nat.not_le.mpr hbl
  have hin : ∀ {i : Int32} {k : Int}, iv i k k → (decide (0 ≤ k) && decide (k < 6)) = true → vp_in i L := fun h1 h2 => by rw [hL6]; exact iv_in h1 (by simpa using h2)
  refine lv_aload_n hx hb dL_law_799 rfl (lv_at hl 2 rfl) ?_
  refine lv_aload_n hx hb dL_law_800 rfl (lv_at hl 3 rfl) ?_
  refine lv_iload_n hx hb dL_law_801 rfl (lv_at hl 0 rfl) ?_
  refine lv_iconst (v := 1) hx hb dL_law_802 (by decide) ?_
  refine lv_iadd hx hb dL_law_803 ?_
  refine lv_topi (fun w9 e9 => ?_)
  obtain rfl : w9 = 1 := e9.trans (by decide)
  refine va_sld hx hb hX hbl hbA hS (hin (iv_c (x := (1 : Int32)) (k := 1) (by decide)) (by decide)) dL_law_804 ?_
  refine lv_aload_n hx hb dL_law_805 rfl (lv_at hl 3 rfl) ?_
  refine lv_iload_n hx hb dL_law_806 rfl (lv_at hl 0 rfl) ?_
  refine lv_iconst (v := 2) hx hb dL_law_807 (by decide) ?_
  refine lv_iadd hx hb dL_law_808 ?_
  refine lv_topi (fun w9 e9 => ?_)
  obtain rfl : w9 = 2 := e9.trans (by decide)
  refine va_sld hx hb hX hbl hbA hS (hin (iv_c (x := (2 : Int32)) (k := 2) (by decide)) (by decide)) dL_law_809 ?_
  refine ti_calli (va_runV (As := [.int (xs (1 : Int32).toNatClampNeg), .int (xs (2 : Int32).toNatClampNeg)]) (rest := []) ⟨hx, hb, hml, hown, hts⟩ (t_X9_best l hT1 hy1 (iv_top _) (iv_top _)) (cwV 2 hts (good_V kw_1013 kw_1014 kw_1015 kw_2 kw_1016) rfl rfl rfl (by decide +kernel) ⟨by decide, by decide⟩) (ti_preV hK hT1 hy1 rfl rfl) rfl rfl hl.1 rfl (lv_room (Nat.le_of_ble_eq_true rfl)) dL_law_810 ⟨by decide, by decide⟩) hS (fun q h => hA1 q h) (fun r1 H1 locs hB hS _ hk => ?_)
  obtain ⟨_, pr1⟩ := hB
  have hT2 := TI.frame hT2 hdis hk
  generalize H1 = H at hT2 hS ⊢
  refine lv_aload_n hx hb dL_law_813 rfl (lv_at hl 1 rfl) ?_
  refine lv_aload_n hx hb dL_law_814 rfl (lv_at hl 3 rfl) ?_
  refine lv_iload_n hx hb dL_law_815 rfl (lv_at hl 0 rfl) ?_
  refine lv_iconst (v := 1) hx hb dL_law_816 (by decide) ?_
  refine lv_iadd hx hb dL_law_817 ?_
  refine lv_topi (fun w9 e9 => ?_)
  obtain rfl : w9 = 1 := e9.trans (by decide)
  refine va_sld hx hb hX hbl hbA hS (hin (iv_c (x := (1 : Int32)) (k := 1) (by decide)) (by decide)) dL_law_818 ?_
  refine lv_aload_n hx hb dL_law_819 rfl (lv_at hl 3 rfl) ?_
  refine lv_iload_n hx hb dL_law_820 rfl (lv_at hl 0 rfl) ?_
  refine lv_iconst (v := 2) hx hb dL_law_821 (by decide) ?_
  refine lv_iadd hx hb dL_law_822 ?_
  refine lv_topi (fun w9 e9 => ?_)
  obtain rfl : w9 = 2 := e9.trans (by decide)
  refine va_sld hx hb hX hbl hbA hS (hin (iv_c (x := (2 : Int32)) (k := 2) (by decide)) (by decide)) dL_law_823 ?_
  refine ti_calli (va_runV (As := [.int (xs (1 : Int32).toNatClampNeg), .int (xs (2 : Int32).toNatClampNeg)]) (rest := [.int r1]) ⟨hx, hb, hml, hown, hts⟩ (t_X10_best l hT2 hy2 (iv_top _) (iv_top _)) (cwV 2 hts (good_V kw_1023 kw_1024 kw_1025 kw_5 kw_1026) rfl rfl rfl (by decide +kernel) ⟨by decide, by decide⟩) (ti_preV hK hT2 hy2 rfl rfl) rfl rfl hl.1 rfl (lv_room (Nat.le_of_ble_eq_true rfl)) dL_law_824 ⟨by decide, by decide⟩) hS (fun q h => hA2 q h) (fun r2 H1 locs hB hS _ hk => ?_)
  obtain ⟨_, pr2⟩ := hB
  generalize H1 = H at hS ⊢
  refine lv_icmp_eq (tgt := 2019) hx hb dL_law_827 (by decide) (fun _ => ?_) (fun h => ?_)
  · exact law_nxt l hL hx hb hr hml hown hts hX hbl hlocks hL6 hS hl
  · exact absurd (Int32.toInt_inj.mp (by omega)) h
set_option maxHeartbeats 8000000 in
set_option maxRecDepth 100000 in
theorem law_c18 {p : Program} {e : Env} {s : State} {m : MethodId} {below : List Frame} {meth : Method} {c : Code} (l : Launch) {b L : Nat} {xs : Nat → Int32} (hL : L ≤ 6) (hx : p.tables.exec = Jvm.exec) (hb : c.code = code) (hr : meth.sig.returnType = ret) (hml : c.maxLocals = 4) (hown : s.vm.findClass RL = some m.cls) (hts : ∀ w ∈ wq, w.before #[Value.ref b] s = true) (hX : va_X b L xs s s.heap) (hbl : b < s.heap.size) (hlocks : meth.locks = false) (hL6 : L = 6) {D : va_G} {c0 : Nat → ClassId} {Y1 Y2 : Nat → Option Nat} {o1 o2 : Nat} {H : Heap} {locs : List Loc} {ls : Array Slot} (hK : va_K D vwCl (tysOf c0) s) (hN : nwA s) (hdis : ∀ q, pA Y1 q → pA Y2 q → False) (hT1 : TI D vwCl (tysOf c0) (RT1 false) Y1 H) (hy1 : Y1 o1 = some 9) (hA1 : ∀ q, pA Y1 q → s.heap.size ≤ q) (hT2 : TI D vwCl (tysOf c0) (RT1 false) Y2 H) (hy2 : Y2 o2 = some 10) (hA2 : ∀ q, pA Y2 q → s.heap.size ≤ q) (hS : va_S (fun q : Nat => s.heap.size ≤ q) s.heap H locs) (hl : lv_has ls 4 [(3, .int 0), (2, .ref o2), (1, .ref o1), (0, .ref b)]) : W p l e room_1 s m #[Value.ref b] below meth c H locs 188 7230 (lw_Z below #[Value.ref b] s) (F0 m 832 ls []) := by
  have hbA : ¬ (fun q : Nat => s.heap.size ≤ q) b := Nat.not_le.mpr hbl
  have hin : ∀ {i : Int32} {k : Int}, iv i k k → (decide (0 ≤ k) && decide (k < 6)) = true → vp_in i L := fun h1 h2 => by rw [hL6]; exact iv_in h1 (by simpa using h2)
  refine lv_aload_n hx hb dL_law_832 rfl (lv_at hl 2 rfl) ?_
  refine lv_aload_n hx hb dL_law_833 rfl (lv_at hl 3 rfl) ?_
  refine lv_iload_n hx hb dL_law_834 rfl (lv_at hl 0 rfl) ?_
  refine lv_iconst (v := 1) hx hb dL_law_835 (by decide) ?_
  refine lv_iadd hx hb dL_law_836 ?_
  refine lv_topi (fun w9 e9 => ?_)
  obtain rfl : w9 = 1 := e9.trans (by decide)
  refine va_sld hx hb hX hbl hbA hS (hin (iv_c (x := (1 : Int32)) (k := 1) (by decide)) (by decide)) dL_law_837 ?_
  refine lv_aload_n hx hb dL_law_838 rfl (lv_at hl 3 rfl) ?_
  refine lv_iload_n hx hb dL_law_839 rfl (lv_at hl 0 rfl) ?_
  refine lv_iconst (v := 2) hx hb dL_law_840 (by decide) ?_
  refine lv_iadd hx hb dL_law_841 ?_
  refine lv_topi (fun w9 e9 => ?_)
  obtain rfl : w9 = 2 := e9.trans (by decide)
  refine va_sld hx hb hX hbl hbA hS (hin (iv_c (x := (2 : Int32)) (k := 2) (by decide)) (by decide)) dL_law_842 ?_
  refine ti_calli (va_runV (As := [.int (xs (1 : Int32).toNatClampNeg), .int (xs (2 : Int32).toNatClampNeg)]) (rest := []) ⟨hx, hb, hml, hown, hts⟩ (t_X9_gift l hT1 hy1 (iv_top _) (iv_top _)) (cwV 2 hts (good_V kw_1028 kw_1029 kw_1030 kw_2 kw_1031) rfl rfl rfl (by decide +kernel) ⟨by decide, by decide⟩) (ti_preV hK hT1 hy1 rfl rfl) rfl rfl hl.1 rfl (lv_room (Nat.le_of_ble_eq_true rfl)) dL_law_843 ⟨by decide, by decide⟩) hS (fun q h => hA1 q h) (fun r1 H1 locs hB hS _ hk => ?_)
  obtain ⟨_, ir1⟩ := hB
  have hT2 := TI.frame hT2 hdis hk
  generalize H1 = H at hT2 hS ⊢
  refine lv_aload_n hx hb dL_law_846 rfl (lv_at hl 1 rfl) ?_
  refine lv_aload_n hx hb dL_law_847 rfl (lv_at hl 3 rfl) ?_
  refine lv_iload_n hx hb dL_law_848 rfl (lv_at hl 0 rfl) ?_
  refine lv_iconst (v := 1) hx hb dL_law_849 (by decide) ?_
  refine lv_iadd hx hb dL_law_850 ?_
  refine lv_topi (fun w9 e9 => ?_)
  obtain rfl : w9 = 1 := e9.trans (by decide)
  refine va_sld hx hb hX hbl hbA hS (hin (iv_c (x := (1 : Int32)) (k := 1) (by decide)) (by decide)) dL_law_851 ?_
  refine lv_aload_n hx hb dL_law_852 rfl (lv_at hl 3 rfl) ?_
  refine lv_iload_n hx hb dL_law_853 rfl (lv_at hl 0 rfl) ?_
  refine lv_iconst (v := 2) hx hb dL_law_854 (by decide) ?_
  refine lv_iadd hx hb dL_law_855 ?_
  refine lv_topi (fun w9 e9 => ?_)
  obtain rfl : w9 = 2 := e9.trans (by decide)
  refine va_sld hx hb hX hbl hbA hS (hin (iv_c (x := (2 : Int32)) (k := 2) (by decide)) (by decide)) dL_law_856 ?_
  refine ti_calli (va_runV (As := [.int (xs (1 : Int32).toNatClampNeg), .int (xs (2 : Int32).toNatClampNeg)]) (rest := [.int r1]) ⟨hx, hb, hml, hown, hts⟩ (t_X10_gift l hT2 hy2 (iv_top _) (iv_top _)) (cwV 2 hts (good_V kw_1050 kw_1051 kw_1052 kw_5 kw_1053) rfl rfl rfl (by decide +kernel) ⟨by decide, by decide⟩) (ti_preV hK hT2 hy2 rfl rfl) rfl rfl hl.1 rfl (lv_room (Nat.le_of_ble_eq_true rfl)) dL_law_857 ⟨by decide, by decide⟩) hS (fun q h => hA2 q h) (fun r2 H1 locs hB hS _ hk => ?_)
  obtain ⟨_, ir2⟩ := hB
  generalize H1 = H at hS ⊢
  refine lv_icmp_eq (tgt := 2019) hx hb dL_law_860 (by decide) (fun _ => ?_) (fun h => ?_)
  · exact law_nxt l hL hx hb hr hml hown hts hX hbl hlocks hL6 hS hl
  · exact absurd (Int32.toInt_inj.mp (by have := ir1.1; have := ir1.2; have := ir2.1; have := ir2.2; omega)) h
set_option maxHeartbeats 8000000 in
set_option maxRecDepth 100000 in
theorem law_c19 {p : Program} {e : Env} {s : State} {m : MethodId} {below : List Frame} {meth : Method} {c : Code} (l : Launch) {b L : Nat} {xs : Nat → Int32} (hL : L ≤ 6) (hx : p.tables.exec = Jvm.exec) (hb : c.code = code) (hr : meth.sig.returnType = ret) (hml : c.maxLocals = 4) (hown : s.vm.findClass RL = some m.cls) (hts : ∀ w ∈ wq, w.before #[Value.ref b] s = true) (hX : va_X b L xs s s.heap) (hbl : b < s.heap.size) (hlocks : meth.locks = false) (hL6 : L = 6) {D : va_G} {c0 : Nat → ClassId} {Y1 Y2 : Nat → Option Nat} {o1 o2 : Nat} {H : Heap} {locs : List Loc} {ls : Array Slot} (hK : va_K D vwCl (tysOf c0) s) (hN : nwA s) (hdis : ∀ q, pA Y1 q → pA Y2 q → False) (hT1 : TI D vwCl (tysOf c0) (RT1 false) Y1 H) (hy1 : Y1 o1 = some 9) (hA1 : ∀ q, pA Y1 q → s.heap.size ≤ q) (hT2 : TI D vwCl (tysOf c0) (RT1 false) Y2 H) (hy2 : Y2 o2 = some 10) (hA2 : ∀ q, pA Y2 q → s.heap.size ≤ q) (hS : va_S (fun q : Nat => s.heap.size ≤ q) s.heap H locs) (hl : lv_has ls 4 [(3, .int 0), (2, .ref o2), (1, .ref o1), (0, .ref b)]) : W p l e room_1 s m #[Value.ref b] below meth c H locs 188 7230 (lw_Z below #[Value.ref b] s) (F0 m 865 ls []) := by
  have hbA : ¬ (fun q : Nat => s.heap.size ≤ q) b := Nat.not_le.mpr hbl
  have hin : ∀ {i : Int32} {k : Int}, iv i k k → (decide (0 ≤ k) && decide (k < 6)) = true → vp_in i L := fun h1 h2 => by rw [hL6]; exact iv_in h1 (by simpa using h2)
  refine lv_aload_n hx hb dL_law_865 rfl (lv_at hl 2 rfl) ?_
  refine lv_aload_n hx hb dL_law_866 rfl (lv_at hl 3 rfl) ?_
  refine lv_iload_n hx hb dL_law_867 rfl (lv_at hl 0 rfl) ?_
  refine lv_iconst (v := 1) hx hb dL_law_868 (by decide) ?_
  refine lv_iadd hx hb dL_law_869 ?_
  refine lv_topi (fun w9 e9 => ?_)
  obtain rfl : w9 = 1 := e9.trans (by decide)
  refine va_sld hx hb hX hbl hbA hS (hin (iv_c (x := (1 : Int32)) (k := 1) (by decide)) (by decide)) dL_law_870 ?_
  refine ti_calli (va_runV (As := [.int (xs (1 : Int32).toNatClampNeg)]) (rest := []) ⟨hx, hb, hml, hown, hts⟩ (t_X9_gifts l hT1 hy1 (iv_top _)) (cwV 1 hts (good_V kw_1062 kw_1063 kw_1064 kw_2 kw_1065) rfl rfl rfl (by decide +kernel) ⟨by decide, by decide⟩) (ti_preV hK hT1 hy1 rfl rfl) rfl rfl hl.1 rfl (lv_room (Nat.le_of_ble_eq_true rfl)) dL_law_871 ⟨by decide, by decide⟩) hS (fun q h => hA1 q h) (fun r1 H1 locs hB hS _ hk => ?_)
  obtain ⟨_, ir1⟩ := hB
  have hT2 := TI.frame hT2 hdis hk
  generalize H1 = H at hT2 hS ⊢
  refine lv_aload_n hx hb dL_law_874 rfl (lv_at hl 1 rfl) ?_
  refine lv_aload_n hx hb dL_law_875 rfl (lv_at hl 3 rfl) ?_
  refine lv_iload_n hx hb dL_law_876 rfl (lv_at hl 0 rfl) ?_
  refine lv_iconst (v := 1) hx hb dL_law_877 (by decide) ?_
  refine lv_iadd hx hb dL_law_878 ?_
  refine lv_topi (fun w9 e9 => ?_)
  obtain rfl : w9 = 1 := e9.trans (by decide)
  refine va_sld hx hb hX hbl hbA hS (hin (iv_c (x := (1 : Int32)) (k := 1) (by decide)) (by decide)) dL_law_879 ?_
  refine ti_calli (va_runV (As := [.int (xs (1 : Int32).toNatClampNeg)]) (rest := [.int r1]) ⟨hx, hb, hml, hown, hts⟩ (t_X10_gifts l hT2 hy2 (iv_top _)) (cwV 1 hts (good_V kw_1066 kw_1067 kw_1068 kw_5 kw_1069) rfl rfl rfl (by decide +kernel) ⟨by decide, by decide⟩) (ti_preV hK hT2 hy2 rfl rfl) rfl rfl hl.1 rfl (lv_room (Nat.le_of_ble_eq_true rfl)) dL_law_880 ⟨by decide, by decide⟩) hS (fun q h => hA2 q h) (fun r2 H1 locs hB hS _ hk => ?_)
  obtain ⟨_, ir2⟩ := hB
  generalize H1 = H at hS ⊢
  refine lv_icmp_eq (tgt := 2019) hx hb dL_law_883 (by decide) (fun _ => ?_) (fun h => ?_)
  · exact law_nxt l hL hx hb hr hml hown hts hX hbl hlocks hL6 hS hl
  · exact absurd (Int32.toInt_inj.mp (by have := ir1.1; have := ir1.2; have := ir2.1; have := ir2.2; omega)) h
set_option maxHeartbeats 8000000 in
set_option maxRecDepth 100000 in
theorem law_c20 {p : Program} {e : Env} {s : State} {m : MethodId} {below : List Frame} {meth : Method} {c : Code} (l : Launch) {b L : Nat} {xs : Nat → Int32} (hL : L ≤ 6) (hx : p.tables.exec = Jvm.exec) (hb : c.code = code) (hr : meth.sig.returnType = ret) (hml : c.maxLocals = 4) (hown : s.vm.findClass RL = some m.cls) (hts : ∀ w ∈ wq, w.before #[Value.ref b] s = true) (hX : va_X b L xs s s.heap) (hbl : b < s.heap.size) (hlocks : meth.locks = false) (hL6 : L = 6) {D : va_G} {c0 : Nat → ClassId} {Y1 Y2 : Nat → Option Nat} {o1 o2 : Nat} {H : Heap} {locs : List Loc} {ls : Array Slot} (hK : va_K D vwCl (tysOf c0) s) (hN : nwA s) (hdis : ∀ q, pA Y1 q → pA Y2 q → False) (hT1 : TI D vwCl (tysOf c0) (RT1 false) Y1 H) (hy1 : Y1 o1 = some 9) (hA1 : ∀ q, pA Y1 q → s.heap.size ≤ q) (hT2 : TI D vwCl (tysOf c0) (RT1 false) Y2 H) (hy2 : Y2 o2 = some 10) (hA2 : ∀ q, pA Y2 q → s.heap.size ≤ q) (hS : va_S (fun q : Nat => s.heap.size ≤ q) s.heap H locs) (hl : lv_has ls 4 [(3, .int 0), (2, .ref o2), (1, .ref o1), (0, .ref b)]) : W p l e room_1 s m #[Value.ref b] below meth c H locs 188 7230 (lw_Z below #[Value.ref b] s) (F0 m 888 ls []) := by
  have hbA : ¬ (fun q : Nat => s.heap.size ≤ q) b := Nat.not_le.mpr hbl
  have hin : ∀ {i : Int32} {k : Int}, iv i k k → (decide (0 ≤ k) && decide (k < 6)) = true → vp_in i L := fun h1 h2 => by rw [hL6]; exact iv_in h1 (by simpa using h2)
  refine lv_aload_n hx hb dL_law_888 rfl (lv_at hl 2 rfl) ?_
  refine ti_calli (va_runV (As := []) (rest := []) ⟨hx, hb, hml, hown, hts⟩ (t_X9_restless l hT1 hy1 ) (cwV 0 hts (good_V kw_1070 kw_1071 kw_1072 kw_2 kw_1073) rfl rfl rfl (by decide +kernel) ⟨by decide, by decide⟩) (ti_preV hK hT1 hy1 rfl rfl) rfl rfl hl.1 rfl (lv_room (Nat.le_of_ble_eq_true rfl)) dL_law_889 ⟨by decide, by decide⟩) hS (fun q h => hA1 q h) (fun r1 H1 locs hB hS _ hk => ?_)
  obtain ⟨_, ir1⟩ := hB
  have hT2 := TI.frame hT2 hdis hk
  generalize H1 = H at hT2 hS ⊢
  refine lv_aload_n hx hb dL_law_892 rfl (lv_at hl 1 rfl) ?_
  refine ti_calli (va_runV (As := []) (rest := [.int r1]) ⟨hx, hb, hml, hown, hts⟩ (t_X10_restless l hT2 hy2 ) (cwV 0 hts (good_V kw_1085 kw_1086 kw_1087 kw_5 kw_1088) rfl rfl rfl (by decide +kernel) ⟨by decide, by decide⟩) (ti_preV hK hT2 hy2 rfl rfl) rfl rfl hl.1 rfl (lv_room (Nat.le_of_ble_eq_true rfl)) dL_law_893 ⟨by decide, by decide⟩) hS (fun q h => hA2 q h) (fun r2 H1 locs hB hS _ hk => ?_)
  obtain ⟨_, ir2⟩ := hB
  generalize H1 = H at hS ⊢
  refine lv_icmp_eq (tgt := 2019) hx hb dL_law_896 (by decide) (fun _ => ?_) (fun h => ?_)
  · exact law_nxt l hL hx hb hr hml hown hts hX hbl hlocks hL6 hS hl
  · exact absurd (Int32.toInt_inj.mp (by have := ir1.1; have := ir1.2; have := ir2.1; have := ir2.2; omega)) h
set_option maxHeartbeats 8000000 in
set_option maxRecDepth 100000 in
theorem law_c21 {p : Program} {e : Env} {s : State} {m : MethodId} {below : List Frame} {meth : Method} {c : Code} (l : Launch) {b L : Nat} {xs : Nat → Int32} (hL : L ≤ 6) (hx : p.tables.exec = Jvm.exec) (hb : c.code = code) (hr : meth.sig.returnType = ret) (hml : c.maxLocals = 4) (hown : s.vm.findClass RL = some m.cls) (hts : ∀ w ∈ wq, w.before #[Value.ref b] s = true) (hX : va_X b L xs s s.heap) (hbl : b < s.heap.size) (hlocks : meth.locks = false) (hL6 : L = 6) {D : va_G} {c0 : Nat → ClassId} {Y1 Y2 : Nat → Option Nat} {o1 o2 : Nat} {H : Heap} {locs : List Loc} {ls : Array Slot} (hK : va_K D vwCl (tysOf c0) s) (hN : nwA s) (hdis : ∀ q, pA Y1 q → pA Y2 q → False) (hT1 : TI D vwCl (tysOf c0) (RT1 false) Y1 H) (hy1 : Y1 o1 = some 9) (hA1 : ∀ q, pA Y1 q → s.heap.size ≤ q) (hT2 : TI D vwCl (tysOf c0) (RT1 false) Y2 H) (hy2 : Y2 o2 = some 10) (hA2 : ∀ q, pA Y2 q → s.heap.size ≤ q) (hS : va_S (fun q : Nat => s.heap.size ≤ q) s.heap H locs) (hl : lv_has ls 4 [(3, .int 0), (2, .ref o2), (1, .ref o1), (0, .ref b)]) : W p l e room_1 s m #[Value.ref b] below meth c H locs 188 7230 (lw_Z below #[Value.ref b] s) (F0 m 901 ls []) := by
  have hbA : ¬ (fun q : Nat => s.heap.size ≤ q) b := Nat.not_le.mpr hbl
  have hin : ∀ {i : Int32} {k : Int}, iv i k k → (decide (0 ≤ k) && decide (k < 6)) = true → vp_in i L := fun h1 h2 => by rw [hL6]; exact iv_in h1 (by simpa using h2)
  refine lv_aload_n hx hb dL_law_901 rfl (lv_at hl 2 rfl) ?_
  refine lv_aload_n hx hb dL_law_902 rfl (lv_at hl 3 rfl) ?_
  refine lv_iload_n hx hb dL_law_903 rfl (lv_at hl 0 rfl) ?_
  refine lv_iconst (v := 1) hx hb dL_law_904 (by decide) ?_
  refine lv_iadd hx hb dL_law_905 ?_
  refine lv_topi (fun w9 e9 => ?_)
  obtain rfl : w9 = 1 := e9.trans (by decide)
  refine va_sld hx hb hX hbl hbA hS (hin (iv_c (x := (1 : Int32)) (k := 1) (by decide)) (by decide)) dL_law_906 ?_
  refine ti_calli (va_runV (As := [.int (xs (1 : Int32).toNatClampNeg)]) (rest := []) ⟨hx, hb, hml, hown, hts⟩ (t_X9_rests l hT1 hy1 (iv_top _)) (cwV 1 hts (good_V kw_1097 kw_1098 kw_1099 kw_2 kw_1100) rfl rfl rfl (by decide +kernel) ⟨by decide, by decide⟩) (ti_preV hK hT1 hy1 rfl rfl) rfl rfl hl.1 rfl (lv_room (Nat.le_of_ble_eq_true rfl)) dL_law_907 ⟨by decide, by decide⟩) hS (fun q h => hA1 q h) (fun r1 H1 locs hB hS _ hk => ?_)
  obtain ⟨_, ir1⟩ := hB
  have hT2 := TI.frame hT2 hdis hk
  generalize H1 = H at hT2 hS ⊢
  refine lv_aload_n hx hb dL_law_910 rfl (lv_at hl 1 rfl) ?_
  refine lv_aload_n hx hb dL_law_911 rfl (lv_at hl 3 rfl) ?_
  refine lv_iload_n hx hb dL_law_912 rfl (lv_at hl 0 rfl) ?_
  refine lv_iconst (v := 1) hx hb dL_law_913 (by decide) ?_
  refine lv_iadd hx hb dL_law_914 ?_
  refine lv_topi (fun w9 e9 => ?_)
  obtain rfl : w9 = 1 := e9.trans (by decide)
  refine va_sld hx hb hX hbl hbA hS (hin (iv_c (x := (1 : Int32)) (k := 1) (by decide)) (by decide)) dL_law_915 ?_
  refine ti_calli (va_runV (As := [.int (xs (1 : Int32).toNatClampNeg)]) (rest := [.int r1]) ⟨hx, hb, hml, hown, hts⟩ (t_X10_rests l hT2 hy2 (iv_top _)) (cwV 1 hts (good_V kw_1102 kw_1103 kw_1104 kw_5 kw_1105) rfl rfl rfl (by decide +kernel) ⟨by decide, by decide⟩) (ti_preV hK hT2 hy2 rfl rfl) rfl rfl hl.1 rfl (lv_room (Nat.le_of_ble_eq_true rfl)) dL_law_916 ⟨by decide, by decide⟩) hS (fun q h => hA2 q h) (fun r2 H1 locs hB hS _ hk => ?_)
  obtain ⟨_, ir2⟩ := hB
  generalize H1 = H at hS ⊢
  refine lv_icmp_eq (tgt := 2019) hx hb dL_law_919 (by decide) (fun _ => ?_) (fun h => ?_)
  · exact law_nxt l hL hx hb hr hml hown hts hX hbl hlocks hL6 hS hl
  · exact absurd (Int32.toInt_inj.mp (by have := ir1.1; have := ir1.2; have := ir2.1; have := ir2.2; omega)) h
