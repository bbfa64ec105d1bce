set_option maxHeartbeats 8000000 in
set_option maxRecDepth 100000 in
theorem law_c11 {p : Program} {e : Env} {s : State} {m : MethodId} {below : List Frame} {meth : Method} {c : Code} (l : Launch) {b L : Nat} {xs : Nat → Int32} (hL : L ≤ 3072) (hx : p.tables.exec = Jvm.exec) (hb : c.code = code) (hr : meth.sig.returnType = ret) (hml : c.maxLocals = 4) (hown : s.vm.findClass RL = some m.cls) (hts : ∀ w ∈ wq, w.before #[Value.ref b] s = true) (hX : va_X b L xs s s.heap) (hbl : b < s.heap.size) (hlocks : meth.locks = false) {D : va_G} {c0 : Nat → ClassId} {Y1 Y2 : Nat → Option Nat} {o1 o2 : Nat} {adK adV : Nat → Nat} (hK : va_K D vwCl (tysOf c0) s) (hSO : SO (fun q : Nat => s.heap.size ≤ q) adK adV s s.heap) (hdis : ∀ q, pA Y1 q → pA Y2 q → False) (hU : uq Y2) (hy1 : Y1 o1 = some 9) (hA1 : ∀ q, pA Y1 q → s.heap.size ≤ q) (hy2 : Y2 o2 = some 10) (hA2 : ∀ q, pA Y2 q → s.heap.size ≤ q) {ν2 : Nat → Nat} {i : Int32} {H : Heap} {locs : List Loc} {ls : Array Slot} (hi : iv i 0 3066) (hiL : i.toInt + 6 ≤ (L : Int)) (hT1 : TI D vwCl (tysOf c0) (RTg (fun _ => 0)) Y1 H) (hT2 : TI D vwCl (tysOf c0) (RTg ν2) Y2 H) (hν : nuOK ν2) (hS : va_S (fun q : Nat => s.heap.size ≤ q) s.heap H locs) (hl : lv_has ls 4 [(3, .int i), (2, .ref o2), (1, .ref o1), (0, .ref b)]) (nxt : ∀ (ν2 : Nat → Nat) (H : Heap) (locs : List Loc), TI D vwCl (tysOf c0) (RTg (fun _ => 0)) Y1 H → TI D vwCl (tysOf c0) (RTg ν2) Y2 H → nuOK ν2 → va_S (fun q : Nat => s.heap.size ≤ q) s.heap H locs → W p l e room_1 s m #[Value.ref b] below meth c H locs 188 7230 (lw_Z below #[Value.ref b] s) (F0 m 2019 ls [])) : W p l e room_1 s m #[Value.ref b] below meth c H locs 188 7230 (lw_Z below #[Value.ref b] s) (F0 m 591 ls []) := by
  have hbA : ¬ (fun q : Nat => s.heap.size ≤ q) b := Nat.not_le.mpr hbl
  refine lv_aload_n hx hb dL_law_591 rfl (lv_at hl 2 rfl) ?_
  refine lv_aload_n hx hb dL_law_592 rfl (lv_at hl 3 rfl) ?_
  refine lv_iload_n hx hb dL_law_593 rfl (lv_at hl 0 rfl) ?_
  refine lv_iconst (v := 1) hx hb dL_law_594 (by decide) ?_
  refine lv_iadd hx hb dL_law_595 ?_
  refine va_sld (i := i + 1) hx hb hX hbl hbA hS (law_in hi hiL (d := 1) (by decide) (by decide) (by decide)) dL_law_596 ?_
  refine ti_calli (va_runV (As := [.int (xs (i + 1).toNatClampNeg)]) (rest := []) ⟨hx, hb, hml, hown, hts⟩ (t_X9_loses l hT1 hy1 (iv_top _)) (cwV 1 hts (good_V kw_633 kw_634 kw_635 kw_2 kw_636) rfl rfl rfl (by decide +kernel) ⟨by decide, by decide⟩) (ti_preV hK hT1 hy1 rfl rfl) rfl rfl hl.1 rfl (lv_room (Nat.le_of_ble_eq_true rfl)) dL_law_597 ⟨by decide, by decide⟩) hS (fun q h => hA1 q (pW_pA h)) (fun r1 H locs hB hS _ hk => ?_)
  have hT1 := hB
  have hT2 := TI.frameW hT2 hdis hk
  refine lv_pop hx hb dL_law_600 rfl ?_
  refine lv_aload_n hx hb dL_law_601 rfl (lv_at hl 1 rfl) ?_
  refine lv_aload_n hx hb dL_law_602 rfl (lv_at hl 3 rfl) ?_
  refine lv_iload_n hx hb dL_law_603 rfl (lv_at hl 0 rfl) ?_
  refine lv_iconst (v := 1) hx hb dL_law_604 (by decide) ?_
  refine lv_iadd hx hb dL_law_605 ?_
  refine va_sld (i := i + 1) hx hb hX hbl hbA hS (law_in hi hiL (d := 1) (by decide) (by decide) (by decide)) dL_law_606 ?_
  refine ti_calli (va_runV (As := [.int (xs (i + 1).toNatClampNeg)]) (rest := []) ⟨hx, hb, hml, hown, hts⟩ (t_X10_loses l hT2 hy2 (iv_top _) hU) (cwV 1 hts (good_V kw_641 kw_642 kw_643 kw_5 kw_644) rfl rfl rfl (by decide +kernel) ⟨by decide, by decide⟩) (ti_preV hK hT2 hy2 rfl rfl) rfl rfl hl.1 rfl (lv_room (Nat.le_of_ble_eq_true rfl)) dL_law_607 ⟨by decide, by decide⟩) hS (fun q h => hA2 q (pW_pA h)) (fun r2 H1 locs hB hS _ hk => ?_)
  obtain ⟨hH, ir2⟩ := hB
  rw [hH] at hS ⊢
  refine lv_pop hx hb dL_law_610 rfl ?_
  refine lv_goto (tgt := 2019) hx hb dL_law_611 (by decide) ?_
  exact nxt ν2 H locs hT1 hT2 hν hS
set_option maxHeartbeats 8000000 in
set_option maxRecDepth 100000 in
theorem law_c12 {p : Program} {e : Env} {s : State} {m : MethodId} {below : List Frame} {meth : Method} {c : Code} (l : Launch) {b L : Nat} {xs : Nat → Int32} (hL : L ≤ 3072) (hx : p.tables.exec = Jvm.exec) (hb : c.code = code) (hr : meth.sig.returnType = ret) (hml : c.maxLocals = 4) (hown : s.vm.findClass RL = some m.cls) (hts : ∀ w ∈ wq, w.before #[Value.ref b] s = true) (hX : va_X b L xs s s.heap) (hbl : b < s.heap.size) (hlocks : meth.locks = false) {D : va_G} {c0 : Nat → ClassId} {Y1 Y2 : Nat → Option Nat} {o1 o2 : Nat} {adK adV : Nat → Nat} (hK : va_K D vwCl (tysOf c0) s) (hSO : SO (fun q : Nat => s.heap.size ≤ q) adK adV s s.heap) (hdis : ∀ q, pA Y1 q → pA Y2 q → False) (hU : uq Y2) (hy1 : Y1 o1 = some 9) (hA1 : ∀ q, pA Y1 q → s.heap.size ≤ q) (hy2 : Y2 o2 = some 10) (hA2 : ∀ q, pA Y2 q → s.heap.size ≤ q) {ν2 : Nat → Nat} {i : Int32} {H : Heap} {locs : List Loc} {ls : Array Slot} (hi : iv i 0 3066) (hiL : i.toInt + 6 ≤ (L : Int)) (hT1 : TI D vwCl (tysOf c0) (RTg (fun _ => 0)) Y1 H) (hT2 : TI D vwCl (tysOf c0) (RTg ν2) Y2 H) (hν : nuOK ν2) (hS : va_S (fun q : Nat => s.heap.size ≤ q) s.heap H locs) (hl : lv_has ls 4 [(3, .int i), (2, .ref o2), (1, .ref o1), (0, .ref b)]) (nxt : ∀ (ν2 : Nat → Nat) (H : Heap) (locs : List Loc), TI D vwCl (tysOf c0) (RTg (fun _ => 0)) Y1 H → TI D vwCl (tysOf c0) (RTg ν2) Y2 H → nuOK ν2 → va_S (fun q : Nat => s.heap.size ≤ q) s.heap H locs → W p l e room_1 s m #[Value.ref b] below meth c H locs 188 7230 (lw_Z below #[Value.ref b] s) (F0 m 2019 ls [])) : W p l e room_1 s m #[Value.ref b] below meth c H locs 188 7230 (lw_Z below #[Value.ref b] s) (F0 m 614 ls []) := by
  have hbA : ¬ (fun q : Nat => s.heap.size ≤ q) b := Nat.not_le.mpr hbl
  refine lv_aload_n hx hb dL_law_614 rfl (lv_at hl 2 rfl) ?_
  refine ti_calli (va_runV (As := []) (rest := []) ⟨hx, hb, hml, hown, hts⟩ (t_X9_stroke l hT1 hy1 ) (cwV 0 hts (good_V kw_656 kw_657 kw_658 kw_2 kw_659) rfl rfl rfl (by decide +kernel) ⟨by decide, by decide⟩) (ti_preV hK hT1 hy1 rfl rfl) rfl rfl hl.1 rfl (lv_room (Nat.le_of_ble_eq_true rfl)) dL_law_615 ⟨by decide, by decide⟩) hS (fun q h => hA1 q (pW_pA h)) (fun r1 H locs hB hS _ hk => ?_)
  have hT1 := hB
  have hT2 := TI.frameW hT2 hdis hk
  refine lv_pop hx hb dL_law_618 rfl ?_
  refine lv_aload_n hx hb dL_law_619 rfl (lv_at hl 1 rfl) ?_
  refine ti_calli (va_runV (As := []) (rest := []) ⟨hx, hb, hml, hown, hts⟩ (t_X10_stroke l hT2 hy2 hU) (cwV 0 hts (good_V kw_715 kw_716 kw_717 kw_5 kw_718) rfl rfl rfl (by decide +kernel) ⟨by decide, by decide⟩) (ti_preV hK hT2 hy2 rfl rfl) rfl rfl hl.1 rfl (lv_room (Nat.le_of_ble_eq_true rfl)) dL_law_620 ⟨by decide, by decide⟩) hS (fun q h => hA2 q (pW_pA h)) (fun r2 H locs hB hS _ hk => ?_)
  have hT2 := hB
  have hT1 := TI.frameW hT1 (fun q h1 h2 => hdis q h2 h1) hk
  refine lv_pop hx hb dL_law_623 rfl ?_
  refine lv_goto (tgt := 2019) hx hb dL_law_624 (by decide) ?_
  exact nxt ν2 H locs hT1 hT2 hν hS
set_option maxHeartbeats 8000000 in
set_option maxRecDepth 100000 in
theorem law_c13 {p : Program} {e : Env} {s : State} {m : MethodId} {below : List Frame} {meth : Method} {c : Code} (l : Launch) {b L : Nat} {xs : Nat → Int32} (hL : L ≤ 3072) (hx : p.tables.exec = Jvm.exec) (hb : c.code = code) (hr : meth.sig.returnType = ret) (hml : c.maxLocals = 4) (hown : s.vm.findClass RL = some m.cls) (hts : ∀ w ∈ wq, w.before #[Value.ref b] s = true) (hX : va_X b L xs s s.heap) (hbl : b < s.heap.size) (hlocks : meth.locks = false) {D : va_G} {c0 : Nat → ClassId} {Y1 Y2 : Nat → Option Nat} {o1 o2 : Nat} {adK adV : Nat → Nat} (hK : va_K D vwCl (tysOf c0) s) (hSO : SO (fun q : Nat => s.heap.size ≤ q) adK adV s s.heap) (hdis : ∀ q, pA Y1 q → pA Y2 q → False) (hU : uq Y2) (hy1 : Y1 o1 = some 9) (hA1 : ∀ q, pA Y1 q → s.heap.size ≤ q) (hy2 : Y2 o2 = some 10) (hA2 : ∀ q, pA Y2 q → s.heap.size ≤ q) {ν2 : Nat → Nat} {i : Int32} {H : Heap} {locs : List Loc} {ls : Array Slot} (hi : iv i 0 3066) (hiL : i.toInt + 6 ≤ (L : Int)) (hT1 : TI D vwCl (tysOf c0) (RTg (fun _ => 0)) Y1 H) (hT2 : TI D vwCl (tysOf c0) (RTg ν2) Y2 H) (hν : nuOK ν2) (hS : va_S (fun q : Nat => s.heap.size ≤ q) s.heap H locs) (hl : lv_has ls 4 [(3, .int i), (2, .ref o2), (1, .ref o1), (0, .ref b)]) (nxt : ∀ (ν2 : Nat → Nat) (H : Heap) (locs : List Loc), TI D vwCl (tysOf c0) (RTg (fun _ => 0)) Y1 H → TI D vwCl (tysOf c0) (RTg ν2) Y2 H → nuOK ν2 → va_S (fun q : Nat => s.heap.size ≤ q) s.heap H locs → W p l e room_1 s m #[Value.ref b] below meth c H locs 188 7230 (lw_Z below #[Value.ref b] s) (F0 m 2019 ls [])) : W p l e room_1 s m #[Value.ref b] below meth c H locs 188 7230 (lw_Z below #[Value.ref b] s) (F0 m 627 ls []) := by
  have hbA : ¬ (fun q : Nat => s.heap.size ≤ q) b := Nat.not_le.mpr hbl
  refine lv_aload_n hx hb dL_law_627 rfl (lv_at hl 2 rfl) ?_
  refine lv_aload_n hx hb dL_law_628 rfl (lv_at hl 3 rfl) ?_
  refine lv_iload_n hx hb dL_law_629 rfl (lv_at hl 0 rfl) ?_
  refine lv_iconst (v := 1) hx hb dL_law_630 (by decide) ?_
  refine lv_iadd hx hb dL_law_631 ?_
  refine va_sld (i := i + 1) hx hb hX hbl hbA hS (law_in hi hiL (d := 1) (by decide) (by decide) (by decide)) dL_law_632 ?_
  refine lv_aload_n hx hb dL_law_633 rfl (lv_at hl 3 rfl) ?_
  refine lv_iload_n hx hb dL_law_634 rfl (lv_at hl 0 rfl) ?_
  refine lv_iconst (v := 2) hx hb dL_law_635 (by decide) ?_
  refine lv_iadd hx hb dL_law_636 ?_
  refine va_sld (i := i + 2) hx hb hX hbl hbA hS (law_in hi hiL (d := 2) (by decide) (by decide) (by decide)) dL_law_637 ?_
  refine lv_aload_n hx hb dL_law_638 rfl (lv_at hl 3 rfl) ?_
  refine lv_iload_n hx hb dL_law_639 rfl (lv_at hl 0 rfl) ?_
  refine lv_iconst (v := 3) hx hb dL_law_640 (by decide) ?_
  refine lv_iadd hx hb dL_law_641 ?_
  refine va_sld (i := i + 3) hx hb hX hbl hbA hS (law_in hi hiL (d := 3) (by decide) (by decide) (by decide)) dL_law_642 ?_
  refine lv_aload_n hx hb dL_law_643 rfl (lv_at hl 3 rfl) ?_
  refine lv_iload_n hx hb dL_law_644 rfl (lv_at hl 0 rfl) ?_
  refine lv_iconst (v := 4) hx hb dL_law_645 (by decide) ?_
  refine lv_iadd hx hb dL_law_646 ?_
  refine va_sld (i := i + 4) hx hb hX hbl hbA hS (law_in hi hiL (d := 4) (by decide) (by decide) (by decide)) dL_law_647 ?_
  refine lv_aload_n hx hb dL_law_648 rfl (lv_at hl 3 rfl) ?_
  refine lv_iload_n hx hb dL_law_649 rfl (lv_at hl 0 rfl) ?_
  refine lv_iconst (v := 5) hx hb dL_law_650 (by decide) ?_
  refine lv_iadd hx hb dL_law_651 ?_
  refine va_sld (i := i + 5) hx hb hX hbl hbA hS (law_in hi hiL (d := 5) (by decide) (by decide) (by decide)) dL_law_652 ?_
  refine ti_calli (va_runV (As := [.int (xs (i + 1).toNatClampNeg), .int (xs (i + 2).toNatClampNeg), .int (xs (i + 3).toNatClampNeg), .int (xs (i + 4).toNatClampNeg), .int (xs (i + 5).toNatClampNeg)]) (rest := []) ⟨hx, hb, hml, hown, hts⟩ (t_X9_act l hT1 hy1 (iv_top _) (iv_top _) (iv_top _) (iv_top _) (iv_top _)) (cwV 5 hts (good_V kw_752 kw_753 kw_754 kw_2 kw_755) rfl rfl rfl (by decide +kernel) ⟨by decide, by decide⟩) (ti_preV hK hT1 hy1 rfl rfl) rfl rfl hl.1 rfl (lv_room (Nat.le_of_ble_eq_true rfl)) dL_law_653 ⟨by decide, by decide⟩) hS (fun q h => hA1 q (pW_pA h)) (fun r1 H locs hB hS _ hk => ?_)
  obtain ⟨hT1, ir1⟩ := hB
  have hT2 := TI.frameW hT2 hdis hk
  refine lv_pop hx hb dL_law_656 rfl ?_
  refine lv_aload_n hx hb dL_law_657 rfl (lv_at hl 1 rfl) ?_
  refine lv_aload_n hx hb dL_law_658 rfl (lv_at hl 3 rfl) ?_
  refine lv_iload_n hx hb dL_law_659 rfl (lv_at hl 0 rfl) ?_
  refine lv_iconst (v := 1) hx hb dL_law_660 (by decide) ?_
  refine lv_iadd hx hb dL_law_661 ?_
  refine va_sld (i := i + 1) hx hb hX hbl hbA hS (law_in hi hiL (d := 1) (by decide) (by decide) (by decide)) dL_law_662 ?_
  refine lv_aload_n hx hb dL_law_663 rfl (lv_at hl 3 rfl) ?_
  refine lv_iload_n hx hb dL_law_664 rfl (lv_at hl 0 rfl) ?_
  refine lv_iconst (v := 2) hx hb dL_law_665 (by decide) ?_
  refine lv_iadd hx hb dL_law_666 ?_
  refine va_sld (i := i + 2) hx hb hX hbl hbA hS (law_in hi hiL (d := 2) (by decide) (by decide) (by decide)) dL_law_667 ?_
  refine lv_aload_n hx hb dL_law_668 rfl (lv_at hl 3 rfl) ?_
  refine lv_iload_n hx hb dL_law_669 rfl (lv_at hl 0 rfl) ?_
  refine lv_iconst (v := 3) hx hb dL_law_670 (by decide) ?_
  refine lv_iadd hx hb dL_law_671 ?_
  refine va_sld (i := i + 3) hx hb hX hbl hbA hS (law_in hi hiL (d := 3) (by decide) (by decide) (by decide)) dL_law_672 ?_
  refine lv_aload_n hx hb dL_law_673 rfl (lv_at hl 3 rfl) ?_
  refine lv_iload_n hx hb dL_law_674 rfl (lv_at hl 0 rfl) ?_
  refine lv_iconst (v := 4) hx hb dL_law_675 (by decide) ?_
  refine lv_iadd hx hb dL_law_676 ?_
  refine va_sld (i := i + 4) hx hb hX hbl hbA hS (law_in hi hiL (d := 4) (by decide) (by decide) (by decide)) dL_law_677 ?_
  refine lv_aload_n hx hb dL_law_678 rfl (lv_at hl 3 rfl) ?_
  refine lv_iload_n hx hb dL_law_679 rfl (lv_at hl 0 rfl) ?_
  refine lv_iconst (v := 5) hx hb dL_law_680 (by decide) ?_
  refine lv_iadd hx hb dL_law_681 ?_
  refine va_sld (i := i + 5) hx hb hX hbl hbA hS (law_in hi hiL (d := 5) (by decide) (by decide) (by decide)) dL_law_682 ?_
  refine ti_calli (va_runV (As := [.int (xs (i + 1).toNatClampNeg), .int (xs (i + 2).toNatClampNeg), .int (xs (i + 3).toNatClampNeg), .int (xs (i + 4).toNatClampNeg), .int (xs (i + 5).toNatClampNeg)]) (rest := []) ⟨hx, hb, hml, hown, hts⟩ (t_X10_act l hT2 hy2 (iv_top _) (iv_top _) (iv_top _) (iv_top _) (iv_top _) hU) (cwV 5 hts (good_V kw_775 kw_776 kw_777 kw_5 kw_778) rfl rfl rfl (by decide +kernel) ⟨by decide, by decide⟩) (ti_preV hK hT2 hy2 rfl rfl) rfl rfl hl.1 rfl (lv_room (Nat.le_of_ble_eq_true rfl)) dL_law_683 ⟨by decide, by decide⟩) hS (fun q h => hA2 q (pW_pA h)) (fun r2 H locs hB hS _ hk => ?_)
  obtain ⟨hT2, ir2⟩ := hB
  have hT1 := TI.frameW hT1 (fun q h1 h2 => hdis q h2 h1) hk
  refine lv_pop hx hb dL_law_686 rfl ?_
  refine lv_goto (tgt := 2019) hx hb dL_law_687 (by decide) ?_
  exact nxt ν2 H locs hT1 hT2 hν hS
set_option maxHeartbeats 8000000 in
set_option maxRecDepth 100000 in
theorem law_c14 {p : Program} {e : Env} {s : State} {m : MethodId} {below : List Frame} {meth : Method} {c : Code} (l : Launch) {b L : Nat} {xs : Nat → Int32} (hL : L ≤ 3072) (hx : p.tables.exec = Jvm.exec) (hb : c.code = code) (hr : meth.sig.returnType = ret) (hml : c.maxLocals = 4) (hown : s.vm.findClass RL = some m.cls) (hts : ∀ w ∈ wq, w.before #[Value.ref b] s = true) (hX : va_X b L xs s s.heap) (hbl : b < s.heap.size) (hlocks : meth.locks = false) {D : va_G} {c0 : Nat → ClassId} {Y1 Y2 : Nat → Option Nat} {o1 o2 : Nat} {adK adV : Nat → Nat} (hK : va_K D vwCl (tysOf c0) s) (hSO : SO (fun q : Nat => s.heap.size ≤ q) adK adV s s.heap) (hdis : ∀ q, pA Y1 q → pA Y2 q → False) (hU : uq Y2) (hy1 : Y1 o1 = some 9) (hA1 : ∀ q, pA Y1 q → s.heap.size ≤ q) (hy2 : Y2 o2 = some 10) (hA2 : ∀ q, pA Y2 q → s.heap.size ≤ q) {ν2 : Nat → Nat} {i : Int32} {H : Heap} {locs : List Loc} {ls : Array Slot} (hi : iv i 0 3066) (hiL : i.toInt + 6 ≤ (L : Int)) (hT1 : TI D vwCl (tysOf c0) (RTg (fun _ => 0)) Y1 H) (hT2 : TI D vwCl (tysOf c0) (RTg ν2) Y2 H) (hν : nuOK ν2) (hS : va_S (fun q : Nat => s.heap.size ≤ q) s.heap H locs) (hl : lv_has ls 4 [(3, .int i), (2, .ref o2), (1, .ref o1), (0, .ref b)]) (nxt : ∀ (ν2 : Nat → Nat) (H : Heap) (locs : List Loc), TI D vwCl (tysOf c0) (RTg (fun _ => 0)) Y1 H → TI D vwCl (tysOf c0) (RTg ν2) Y2 H → nuOK ν2 → va_S (fun q : Nat => s.heap.size ≤ q) s.heap H locs → W p l e room_1 s m #[Value.ref b] below meth c H locs 188 7230 (lw_Z below #[Value.ref b] s) (F0 m 2019 ls [])) : W p l e room_1 s m #[Value.ref b] below meth c H locs 188 7230 (lw_Z below #[Value.ref b] s) (F0 m 690 ls []) := by
  have hbA : ¬ (fun q : Nat => s.heap.size ≤ q) b := Nat.not_le.mpr hbl
  refine lv_aload_n hx hb dL_law_690 rfl (lv_at hl 2 rfl) ?_
  refine lv_aload_n hx hb dL_law_691 rfl (lv_at hl 3 rfl) ?_
  refine lv_iload_n hx hb dL_law_692 rfl (lv_at hl 0 rfl) ?_
  refine lv_iconst (v := 1) hx hb dL_law_693 (by decide) ?_
  refine lv_iadd hx hb dL_law_694 ?_
  refine va_sld (i := i + 1) hx hb hX hbl hbA hS (law_in hi hiL (d := 1) (by decide) (by decide) (by decide)) dL_law_695 ?_
  refine ti_calli (va_runV (As := [.int (xs (i + 1).toNatClampNeg)]) (rest := []) ⟨hx, hb, hml, hown, hts⟩ (t_X9_judge l hT1 hy1 (iv_top _)) (cwV 1 hts (good_V kw_795 kw_796 kw_797 kw_2 kw_798) rfl rfl rfl (by decide +kernel) ⟨by decide, by decide⟩) (ti_preV hK hT1 hy1 rfl rfl) rfl rfl hl.1 rfl (lv_room (Nat.le_of_ble_eq_true rfl)) dL_law_696 ⟨by decide, by decide⟩) hS (fun q h => hA1 q (pW_pA h)) (fun r1 H locs hB hS _ hk => ?_)
  obtain ⟨hT1, ir1⟩ := hB
  have hT2 := TI.frameW hT2 hdis hk
  refine lv_pop hx hb dL_law_699 rfl ?_
  refine lv_aload_n hx hb dL_law_700 rfl (lv_at hl 1 rfl) ?_
  refine lv_aload_n hx hb dL_law_701 rfl (lv_at hl 3 rfl) ?_
  refine lv_iload_n hx hb dL_law_702 rfl (lv_at hl 0 rfl) ?_
  refine lv_iconst (v := 1) hx hb dL_law_703 (by decide) ?_
  refine lv_iadd hx hb dL_law_704 ?_
  refine va_sld (i := i + 1) hx hb hX hbl hbA hS (law_in hi hiL (d := 1) (by decide) (by decide) (by decide)) dL_law_705 ?_
  refine ti_calli (va_runV (As := [.int (xs (i + 1).toNatClampNeg)]) (rest := []) ⟨hx, hb, hml, hown, hts⟩ (t_X10_judge l hT2 hy2 (iv_top _) hν.1 hν.2.2.1 hν.2.2.2 hU) (cwV 1 hts (good_V kw_810 kw_811 kw_812 kw_5 kw_813) rfl rfl rfl (by decide +kernel) ⟨by decide, by decide⟩) (ti_preV hK hT2 hy2 rfl rfl) rfl rfl hl.1 rfl (lv_room (Nat.le_of_ble_eq_true rfl)) dL_law_706 ⟨by decide, by decide⟩) hS (fun q h => hA2 q (pW_pA h)) (fun r2 H locs hB hS _ hk => ?_)
  obtain ⟨hT2, ir2⟩ := hB
  have hT1 := TI.frameW hT1 (fun q h1 h2 => hdis q h2 h1) hk
  refine lv_pop hx hb dL_law_709 rfl ?_
  refine lv_goto (tgt := 2019) hx hb dL_law_710 (by decide) ?_
  exact nxt ν2 H locs hT1 hT2 hν hS
set_option maxHeartbeats 8000000 in
set_option maxRecDepth 100000 in
theorem law_c15 {p : Program} {e : Env} {s : State} {m : MethodId} {below : List Frame} {meth : Method} {c : Code} (l : Launch) {b L : Nat} {xs : Nat → Int32} (hL : L ≤ 3072) (hx : p.tables.exec = Jvm.exec) (hb : c.code = code) (hr : meth.sig.returnType = ret) (hml : c.maxLocals = 4) (hown : s.vm.findClass RL = some m.cls) (hts : ∀ w ∈ wq, w.before #[Value.ref b] s = true) (hX : va_X b L xs s s.heap) (hbl : b < s.heap.size) (hlocks : meth.locks = false) {D : va_G} {c0 : Nat → ClassId} {Y1 Y2 : Nat → Option Nat} {o1 o2 : Nat} {adK adV : Nat → Nat} (hK : va_K D vwCl (tysOf c0) s) (hSO : SO (fun q : Nat => s.heap.size ≤ q) adK adV s s.heap) (hdis : ∀ q, pA Y1 q → pA Y2 q → False) (hU : uq Y2) (hy1 : Y1 o1 = some 9) (hA1 : ∀ q, pA Y1 q → s.heap.size ≤ q) (hy2 : Y2 o2 = some 10) (hA2 : ∀ q, pA Y2 q → s.heap.size ≤ q) {ν2 : Nat → Nat} {i : Int32} {H : Heap} {locs : List Loc} {ls : Array Slot} (hi : iv i 0 3066) (hiL : i.toInt + 6 ≤ (L : Int)) (hT1 : TI D vwCl (tysOf c0) (RTg (fun _ => 0)) Y1 H) (hT2 : TI D vwCl (tysOf c0) (RTg ν2) Y2 H) (hν : nuOK ν2) (hS : va_S (fun q : Nat => s.heap.size ≤ q) s.heap H locs) (hl : lv_has ls 4 [(3, .int i), (2, .ref o2), (1, .ref o1), (0, .ref b)]) (nxt : ∀ (ν2 : Nat → Nat) (H : Heap) (locs : List Loc), TI D vwCl (tysOf c0) (RTg (fun _ => 0)) Y1 H → TI D vwCl (tysOf c0) (RTg ν2) Y2 H → nuOK ν2 → va_S (fun q : Nat => s.heap.size ≤ q) s.heap H locs → W p l e room_1 s m #[Value.ref b] below meth c H locs 188 7230 (lw_Z below #[Value.ref b] s) (F0 m 2019 ls [])) : W p l e room_1 s m #[Value.ref b] below meth c H locs 188 7230 (lw_Z below #[Value.ref b] s) (F0 m 713 ls []) := by
  have hbA : ¬ (fun q : Nat => s.heap.size ≤ q) b := Nat.not_le.mpr hbl
  refine lv_aload_n hx hb dL_law_713 rfl (lv_at hl 2 rfl) ?_
  refine lv_aload_n hx hb dL_law_714 rfl (lv_at hl 3 rfl) ?_
  refine lv_iload_n hx hb dL_law_715 rfl (lv_at hl 0 rfl) ?_
  refine lv_iconst (v := 1) hx hb dL_law_716 (by decide) ?_
  refine lv_iadd hx hb dL_law_717 ?_
  refine va_sld (i := i + 1) hx hb hX hbl hbA hS (law_in hi hiL (d := 1) (by decide) (by decide) (by decide)) dL_law_718 ?_
  refine ti_calli (va_runV (As := [.int (xs (i + 1).toNatClampNeg)]) (rest := []) ⟨hx, hb, hml, hown, hts⟩ (t_X9_run l hT1 hy1 (iv_top _)) (cwV 1 hts (good_V kw_828 kw_829 kw_830 kw_2 kw_831) rfl rfl rfl (by decide +kernel) ⟨by decide, by decide⟩) (ti_preV hK hT1 hy1 rfl rfl) rfl rfl hl.1 rfl (lv_room (Nat.le_of_ble_eq_true rfl)) dL_law_719 ⟨by decide, by decide⟩) hS (fun q h => hA1 q (pW_pA h)) (fun r1 H locs hB hS _ hk => ?_)
  have hT1 := hB
  have hT2 := TI.frameW hT2 hdis hk
  refine lv_pop hx hb dL_law_722 rfl ?_
  refine lv_aload_n hx hb dL_law_723 rfl (lv_at hl 1 rfl) ?_
  refine lv_aload_n hx hb dL_law_724 rfl (lv_at hl 3 rfl) ?_
  refine lv_iload_n hx hb dL_law_725 rfl (lv_at hl 0 rfl) ?_
  refine lv_iconst (v := 1) hx hb dL_law_726 (by decide) ?_
  refine lv_iadd hx hb dL_law_727 ?_
  refine va_sld (i := i + 1) hx hb hX hbl hbA hS (law_in hi hiL (d := 1) (by decide) (by decide) (by decide)) dL_law_728 ?_
  refine ti_calli (va_runV (As := [.int (xs (i + 1).toNatClampNeg)]) (rest := []) ⟨hx, hb, hml, hown, hts⟩ (t_X10_run l hT2 hy2 (iv_top _) hU) (cwV 1 hts (good_V kw_931 kw_932 kw_933 kw_5 kw_934) rfl rfl rfl (by decide +kernel) ⟨by decide, by decide⟩) (ti_preV hK hT2 hy2 rfl rfl) rfl rfl hl.1 rfl (lv_room (Nat.le_of_ble_eq_true rfl)) dL_law_729 ⟨by decide, by decide⟩) hS (fun q h => hA2 q (pW_pA h)) (fun r2 H locs hB hS _ hk => ?_)
  have hT2 := hB
  have hT1 := TI.frameW hT1 (fun q h1 h2 => hdis q h2 h1) hk
  refine lv_pop hx hb dL_law_732 rfl ?_
  refine lv_goto (tgt := 2019) hx hb dL_law_733 (by decide) ?_
  exact nxt ν2 H locs hT1 hT2 hν hS
set_option maxHeartbeats 8000000 in
set_option maxRecDepth 100000 in
theorem law_c16 {p : Program} {e : Env} {s : State} {m : MethodId} {below : List Frame} {meth : Method} {c : Code} (l : Launch) {b L : Nat} {xs : Nat → Int32} (hL : L ≤ 3072) (hx : p.tables.exec = Jvm.exec) (hb : c.code = code) (hr : meth.sig.returnType = ret) (hml : c.maxLocals = 4) (hown : s.vm.findClass RL = some m.cls) (hts : ∀ w ∈ wq, w.before #[Value.ref b] s = true) (hX : va_X b L xs s s.heap) (hbl : b < s.heap.size) (hlocks : meth.locks = false) {D : va_G} {c0 : Nat → ClassId} {Y1 Y2 : Nat → Option Nat} {o1 o2 : Nat} {adK adV : Nat → Nat} (hK : va_K D vwCl (tysOf c0) s) (hSO : SO (fun q : Nat => s.heap.size ≤ q) adK adV s s.heap) (hdis : ∀ q, pA Y1 q → pA Y2 q → False) (hU : uq Y2) (hy1 : Y1 o1 = some 9) (hA1 : ∀ q, pA Y1 q → s.heap.size ≤ q) (hy2 : Y2 o2 = some 10) (hA2 : ∀ q, pA Y2 q → s.heap.size ≤ q) {ν2 : Nat → Nat} {i : Int32} {H : Heap} {locs : List Loc} {ls : Array Slot} (hi : iv i 0 3066) (hiL : i.toInt + 6 ≤ (L : Int)) (hT1 : TI D vwCl (tysOf c0) (RTg (fun _ => 0)) Y1 H) (hT2 : TI D vwCl (tysOf c0) (RTg ν2) Y2 H) (hν : nuOK ν2) (hS : va_S (fun q : Nat => s.heap.size ≤ q) s.heap H locs) (hl : lv_has ls 4 [(3, .int i), (2, .ref o2), (1, .ref o1), (0, .ref b)]) (nxt : ∀ (ν2 : Nat → Nat) (H : Heap) (locs : List Loc), TI D vwCl (tysOf c0) (RTg (fun _ => 0)) Y1 H → TI D vwCl (tysOf c0) (RTg ν2) Y2 H → nuOK ν2 → va_S (fun q : Nat => s.heap.size ≤ q) s.heap H locs → W p l e room_1 s m #[Value.ref b] below meth c H locs 188 7230 (lw_Z below #[Value.ref b] s) (F0 m 2019 ls [])) : W p l e room_1 s m #[Value.ref b] below meth c H locs 188 7230 (lw_Z below #[Value.ref b] s) (F0 m 736 ls []) := by
  have hbA : ¬ (fun q : Nat => s.heap.size ≤ q) b := Nat.not_le.mpr hbl
  refine lv_aload_n hx hb dL_law_736 rfl (lv_at hl 2 rfl) ?_
  refine lv_aload_n hx hb dL_law_737 rfl (lv_at hl 3 rfl) ?_
  refine lv_iload_n hx hb dL_law_738 rfl (lv_at hl 0 rfl) ?_
  refine lv_iconst (v := 1) hx hb dL_law_739 (by decide) ?_
  refine lv_iadd hx hb dL_law_740 ?_
  refine va_sld (i := i + 1) hx hb hX hbl hbA hS (law_in hi hiL (d := 1) (by decide) (by decide) (by decide)) dL_law_741 ?_
  refine lv_aload_n hx hb dL_law_742 rfl (lv_at hl 3 rfl) ?_
  refine lv_iload_n hx hb dL_law_743 rfl (lv_at hl 0 rfl) ?_
  refine lv_iconst (v := 2) hx hb dL_law_744 (by decide) ?_
  refine lv_iadd hx hb dL_law_745 ?_
  refine va_sld (i := i + 2) hx hb hX hbl hbA hS (law_in hi hiL (d := 2) (by decide) (by decide) (by decide)) dL_law_746 ?_
  refine lv_aload_n hx hb dL_law_747 rfl (lv_at hl 3 rfl) ?_
  refine lv_iload_n hx hb dL_law_748 rfl (lv_at hl 0 rfl) ?_
  refine lv_iconst (v := 3) hx hb dL_law_749 (by decide) ?_
  refine lv_iadd hx hb dL_law_750 ?_
  refine va_sld (i := i + 3) hx hb hX hbl hbA hS (law_in hi hiL (d := 3) (by decide) (by decide) (by decide)) dL_law_751 ?_
  refine lv_aload_n hx hb dL_law_752 rfl (lv_at hl 3 rfl) ?_
  refine lv_iload_n hx hb dL_law_753 rfl (lv_at hl 0 rfl) ?_
  refine lv_iconst (v := 4) hx hb dL_law_754 (by decide) ?_
  refine lv_iadd hx hb dL_law_755 ?_
  refine va_sld (i := i + 4) hx hb hX hbl hbA hS (law_in hi hiL (d := 4) (by decide) (by decide) (by decide)) dL_law_756 ?_
  refine lv_aload_n hx hb dL_law_757 rfl (lv_at hl 3 rfl) ?_
  refine lv_iload_n hx hb dL_law_758 rfl (lv_at hl 0 rfl) ?_
  refine lv_iconst (v := 5) hx hb dL_law_759 (by decide) ?_
  refine lv_iadd hx hb dL_law_760 ?_
  refine va_sld (i := i + 5) hx hb hX hbl hbA hS (law_in hi hiL (d := 5) (by decide) (by decide) (by decide)) dL_law_761 ?_
  refine ti_calli (va_runV (As := [.int (xs (i + 1).toNatClampNeg), .int (xs (i + 2).toNatClampNeg), .int (xs (i + 3).toNatClampNeg), .int (xs (i + 4).toNatClampNeg), .int (xs (i + 5).toNatClampNeg)]) (rest := []) ⟨hx, hb, hml, hown, hts⟩ (t_X9_value l hT1 hy1 (iv_top _) (iv_top _) (iv_top _) (iv_top _) (iv_top _)) (cwV 5 hts (good_V kw_999 kw_1000 kw_1001 kw_2 kw_1002) rfl rfl rfl (by decide +kernel) ⟨by decide, by decide⟩) (ti_preV hK hT1 hy1 rfl rfl) rfl rfl hl.1 rfl (lv_room (Nat.le_of_ble_eq_true rfl)) dL_law_762 ⟨by decide, by decide⟩) hS (fun q h => hA1 q (pW_pA h)) (fun r1 H locs hB hS _ hk => ?_)
  have hT1 := hB
  have hT2 := TI.frameW hT2 hdis hk
  refine lv_pop hx hb dL_law_765 rfl ?_
  refine lv_aload_n hx hb dL_law_766 rfl (lv_at hl 1 rfl) ?_
  refine lv_aload_n hx hb dL_law_767 rfl (lv_at hl 3 rfl) ?_
  refine lv_iload_n hx hb dL_law_768 rfl (lv_at hl 0 rfl) ?_
  refine lv_iconst (v := 1) hx hb dL_law_769 (by decide) ?_
  refine lv_iadd hx hb dL_law_770 ?_
  refine va_sld (i := i + 1) hx hb hX hbl hbA hS (law_in hi hiL (d := 1) (by decide) (by decide) (by decide)) dL_law_771 ?_
  refine lv_aload_n hx hb dL_law_772 rfl (lv_at hl 3 rfl) ?_
  refine lv_iload_n hx hb dL_law_773 rfl (lv_at hl 0 rfl) ?_
  refine lv_iconst (v := 2) hx hb dL_law_774 (by decide) ?_
  refine lv_iadd hx hb dL_law_775 ?_
  refine va_sld (i := i + 2) hx hb hX hbl hbA hS (law_in hi hiL (d := 2) (by decide) (by decide) (by decide)) dL_law_776 ?_
  refine lv_aload_n hx hb dL_law_777 rfl (lv_at hl 3 rfl) ?_
  refine lv_iload_n hx hb dL_law_778 rfl (lv_at hl 0 rfl) ?_
  refine lv_iconst (v := 3) hx hb dL_law_779 (by decide) ?_
  refine lv_iadd hx hb dL_law_780 ?_
  refine va_sld (i := i + 3) hx hb hX hbl hbA hS (law_in hi hiL (d := 3) (by decide) (by decide) (by decide)) dL_law_781 ?_
  refine lv_aload_n hx hb dL_law_782 rfl (lv_at hl 3 rfl) ?_
  refine lv_iload_n hx hb dL_law_783 rfl (lv_at hl 0 rfl) ?_
  refine lv_iconst (v := 4) hx hb dL_law_784 (by decide) ?_
  refine lv_iadd hx hb dL_law_785 ?_
  refine va_sld (i := i + 4) hx hb hX hbl hbA hS (law_in hi hiL (d := 4) (by decide) (by decide) (by decide)) dL_law_786 ?_
  refine lv_aload_n hx hb dL_law_787 rfl (lv_at hl 3 rfl) ?_
  refine lv_iload_n hx hb dL_law_788 rfl (lv_at hl 0 rfl) ?_
  refine lv_iconst (v := 5) hx hb dL_law_789 (by decide) ?_
  refine lv_iadd hx hb dL_law_790 ?_
  refine va_sld (i := i + 5) hx hb hX hbl hbA hS (law_in hi hiL (d := 5) (by decide) (by decide) (by decide)) dL_law_791 ?_
  refine ti_calli (va_runV (As := [.int (xs (i + 1).toNatClampNeg), .int (xs (i + 2).toNatClampNeg), .int (xs (i + 3).toNatClampNeg), .int (xs (i + 4).toNatClampNeg), .int (xs (i + 5).toNatClampNeg)]) (rest := []) ⟨hx, hb, hml, hown, hts⟩ (t_X10_value l hT2 hy2 (iv_top _) (iv_top _) (iv_top _) (iv_top _) (iv_top _) hU) (cwV 5 hts (good_V kw_1009 kw_1010 kw_1011 kw_5 kw_1012) rfl rfl rfl (by decide +kernel) ⟨by decide, by decide⟩) (ti_preV hK hT2 hy2 rfl rfl) rfl rfl hl.1 rfl (lv_room (Nat.le_of_ble_eq_true rfl)) dL_law_792 ⟨by decide, by decide⟩) hS (fun q h => hA2 q (pW_pA h)) (fun r2 H locs hB hS _ hk => ?_)
  have hT2 := hB
  have hT1 := TI.frameW hT1 (fun q h1 h2 => hdis q h2 h1) hk
  refine lv_pop hx hb dL_law_795 rfl ?_
  refine lv_goto (tgt := 2019) hx hb dL_law_796 (by decide) ?_
  exact nxt ν2 H locs hT1 hT2 hν hS
set_option maxHeartbeats 8000000 in
set_option maxRecDepth 100000 in
theorem law_c17 {p : Program} {e : Env} {s : State} {m : MethodId} {below : List Frame} {meth : Method} {c : Code} (l : Launch) {b L : Nat} {xs : Nat → Int32} (hL : L ≤ 3072) (hx : p.tables.exec = Jvm.exec) (hb : c.code = code) (hr : meth.sig.returnType = ret) (hml : c.maxLocals = 4) (hown : s.vm.findClass RL = some m.cls) (hts : ∀ w ∈ wq, w.before #[Value.ref b] s = true) (hX : va_X b L xs s s.heap) (hbl : b < s.heap.size) (hlocks : meth.locks = false) {D : va_G} {c0 : Nat → ClassId} {Y1 Y2 : Nat → Option Nat} {o1 o2 : Nat} {adK adV : Nat → Nat} (hK : va_K D vwCl (tysOf c0) s) (hSO : SO (fun q : Nat => s.heap.size ≤ q) adK adV s s.heap) (hdis : ∀ q, pA Y1 q → pA Y2 q → False) (hU : uq Y2) (hy1 : Y1 o1 = some 9) (hA1 : ∀ q, pA Y1 q → s.heap.size ≤ q) (hy2 : Y2 o2 = some 10) (hA2 : ∀ q, pA Y2 q → s.heap.size ≤ q) {ν2 : Nat → Nat} {i : Int32} {H : Heap} {locs : List Loc} {ls : Array Slot} (hi : iv i 0 3066) (hiL : i.toInt + 6 ≤ (L : Int)) (hT1 : TI D vwCl (tysOf c0) (RTg (fun _ => 0)) Y1 H) (hT2 : TI D vwCl (tysOf c0) (RTg ν2) Y2 H) (hν : nuOK ν2) (hS : va_S (fun q : Nat => s.heap.size ≤ q) s.heap H locs) (hl : lv_has ls 4 [(3, .int i), (2, .ref o2), (1, .ref o1), (0, .ref b)]) (nxt : ∀ (ν2 : Nat → Nat) (H : Heap) (locs : List Loc), TI D vwCl (tysOf c0) (RTg (fun _ => 0)) Y1 H → TI D vwCl (tysOf c0) (RTg ν2) Y2 H → nuOK ν2 → va_S (fun q : Nat => s.heap.size ≤ q) s.heap H locs → W p l e room_1 s m #[Value.ref b] below meth c H locs 188 7230 (lw_Z below #[Value.ref b] s) (F0 m 2019 ls [])) : W p l e room_1 s m #[Value.ref b] below meth c H locs 188 7230 (lw_Z below #[Value.ref b] s) (F0 m 799 ls []) := by
  have hbA : ¬ (fun q : Nat => s.heap.size ≤ q) b := Nat.not_le.mpr hbl
  refine lv_aload_n hx hb dL_law_799 rfl (lv_at hl 2 rfl) ?_
  refine lv_aload_n hx hb dL_law_800 rfl (lv_at hl 3 rfl) ?_
  refine lv_iload_n hx hb dL_law_801 rfl (lv_at hl 0 rfl) ?_
  refine lv_iconst (v := 1) hx hb dL_law_802 (by decide) ?_
  refine lv_iadd hx hb dL_law_803 ?_
  refine va_sld (i := i + 1) hx hb hX hbl hbA hS (law_in hi hiL (d := 1) (by decide) (by decide) (by decide)) dL_law_804 ?_
  refine lv_aload_n hx hb dL_law_805 rfl (lv_at hl 3 rfl) ?_
  refine lv_iload_n hx hb dL_law_806 rfl (lv_at hl 0 rfl) ?_
  refine lv_iconst (v := 2) hx hb dL_law_807 (by decide) ?_
  refine lv_iadd hx hb dL_law_808 ?_
  refine va_sld (i := i + 2) hx hb hX hbl hbA hS (law_in hi hiL (d := 2) (by decide) (by decide) (by decide)) dL_law_809 ?_
  refine ti_calli (va_runV (As := [.int (xs (i + 1).toNatClampNeg), .int (xs (i + 2).toNatClampNeg)]) (rest := []) ⟨hx, hb, hml, hown, hts⟩ (t_X9_best l hT1 hy1 (iv_top _) (iv_top _)) (cwV 2 hts (good_V kw_1013 kw_1014 kw_1015 kw_2 kw_1016) rfl rfl rfl (by decide +kernel) ⟨by decide, by decide⟩) (ti_preV hK hT1 hy1 rfl rfl) rfl rfl hl.1 rfl (lv_room (Nat.le_of_ble_eq_true rfl)) dL_law_810 ⟨by decide, by decide⟩) hS (fun q h => hA1 q (pW_pA h)) (fun r1 H locs hB hS _ hk => ?_)
  have hT1 := hB
  have hT2 := TI.frameW hT2 hdis hk
  refine lv_pop hx hb dL_law_813 rfl ?_
  refine lv_aload_n hx hb dL_law_814 rfl (lv_at hl 1 rfl) ?_
  refine lv_aload_n hx hb dL_law_815 rfl (lv_at hl 3 rfl) ?_
  refine lv_iload_n hx hb dL_law_816 rfl (lv_at hl 0 rfl) ?_
  refine lv_iconst (v := 1) hx hb dL_law_817 (by decide) ?_
  refine lv_iadd hx hb dL_law_818 ?_
  refine va_sld (i := i + 1) hx hb hX hbl hbA hS (law_in hi hiL (d := 1) (by decide) (by decide) (by decide)) dL_law_819 ?_
  refine lv_aload_n hx hb dL_law_820 rfl (lv_at hl 3 rfl) ?_
  refine lv_iload_n hx hb dL_law_821 rfl (lv_at hl 0 rfl) ?_
  refine lv_iconst (v := 2) hx hb dL_law_822 (by decide) ?_
  refine lv_iadd hx hb dL_law_823 ?_
  refine va_sld (i := i + 2) hx hb hX hbl hbA hS (law_in hi hiL (d := 2) (by decide) (by decide) (by decide)) dL_law_824 ?_
  refine ti_calli (va_runV (As := [.int (xs (i + 1).toNatClampNeg), .int (xs (i + 2).toNatClampNeg)]) (rest := []) ⟨hx, hb, hml, hown, hts⟩ (t_X10_best l hT2 hy2 (iv_top _) (iv_top _) hU) (cwV 2 hts (good_V kw_1023 kw_1024 kw_1025 kw_5 kw_1026) rfl rfl rfl (by decide +kernel) ⟨by decide, by decide⟩) (ti_preV hK hT2 hy2 rfl rfl) rfl rfl hl.1 rfl (lv_room (Nat.le_of_ble_eq_true rfl)) dL_law_825 ⟨by decide, by decide⟩) hS (fun q h => hA2 q (pW_pA h)) (fun r2 H locs hB hS _ hk => ?_)
  have hT2 := hB
  have hT1 := TI.frameW hT1 (fun q h1 h2 => hdis q h2 h1) hk
  refine lv_pop hx hb dL_law_828 rfl ?_
  refine lv_goto (tgt := 2019) hx hb dL_law_829 (by decide) ?_
  exact nxt ν2 H locs hT1 hT2 hν hS
set_option maxHeartbeats 8000000 in
set_option maxRecDepth 100000 in
theorem law_c18 {p : Program} {e : Env} {s : State} {m : MethodId} {below : List Frame} {meth : Method} {c : Code} (l : Launch) {b L : Nat} {xs : Nat → Int32} (hL : L ≤ 3072) (hx : p.tables.exec = Jvm.exec) (hb : c.code = code) (hr : meth.sig.returnType = ret) (hml : c.maxLocals = 4) (hown : s.vm.findClass RL = some m.cls) (hts : ∀ w ∈ wq, w.before #[Value.ref b] s = true) (hX : va_X b L xs s s.heap) (hbl : b < s.heap.size) (hlocks : meth.locks = false) {D : va_G} {c0 : Nat → ClassId} {Y1 Y2 : Nat → Option Nat} {o1 o2 : Nat} {adK adV : Nat → Nat} (hK : va_K D vwCl (tysOf c0) s) (hSO : SO (fun q : Nat => s.heap.size ≤ q) adK adV s s.heap) (hdis : ∀ q, pA Y1 q → pA Y2 q → False) (hU : uq Y2) (hy1 : Y1 o1 = some 9) (hA1 : ∀ q, pA Y1 q → s.heap.size ≤ q) (hy2 : Y2 o2 = some 10) (hA2 : ∀ q, pA Y2 q → s.heap.size ≤ q) {ν2 : Nat → Nat} {i : Int32} {H : Heap} {locs : List Loc} {ls : Array Slot} (hi : iv i 0 3066) (hiL : i.toInt + 6 ≤ (L : Int)) (hT1 : TI D vwCl (tysOf c0) (RTg (fun _ => 0)) Y1 H) (hT2 : TI D vwCl (tysOf c0) (RTg ν2) Y2 H) (hν : nuOK ν2) (hS : va_S (fun q : Nat => s.heap.size ≤ q) s.heap H locs) (hl : lv_has ls 4 [(3, .int i), (2, .ref o2), (1, .ref o1), (0, .ref b)]) (nxt : ∀ (ν2 : Nat → Nat) (H : Heap) (locs : List Loc), TI D vwCl (tysOf c0) (RTg (fun _ => 0)) Y1 H → TI D vwCl (tysOf c0) (RTg ν2) Y2 H → nuOK ν2 → va_S (fun q : Nat => s.heap.size ≤ q) s.heap H locs → W p l e room_1 s m #[Value.ref b] below meth c H locs 188 7230 (lw_Z below #[Value.ref b] s) (F0 m 2019 ls [])) : W p l e room_1 s m #[Value.ref b] below meth c H locs 188 7230 (lw_Z below #[Value.ref b] s) (F0 m 832 ls []) := by
  have hbA : ¬ (fun q : Nat => s.heap.size ≤ q) b := Nat.not_le.mpr hbl
  refine lv_aload_n hx hb dL_law_832 rfl (lv_at hl 2 rfl) ?_
  refine lv_aload_n hx hb dL_law_833 rfl (lv_at hl 3 rfl) ?_
  refine lv_iload_n hx hb dL_law_834 rfl (lv_at hl 0 rfl) ?_
  refine lv_iconst (v := 1) hx hb dL_law_835 (by decide) ?_
  refine lv_iadd hx hb dL_law_836 ?_
  refine va_sld (i := i + 1) hx hb hX hbl hbA hS (law_in hi hiL (d := 1) (by decide) (by decide) (by decide)) dL_law_837 ?_
  refine lv_aload_n hx hb dL_law_838 rfl (lv_at hl 3 rfl) ?_
  refine lv_iload_n hx hb dL_law_839 rfl (lv_at hl 0 rfl) ?_
  refine lv_iconst (v := 2) hx hb dL_law_840 (by decide) ?_
  refine lv_iadd hx hb dL_law_841 ?_
  refine va_sld (i := i + 2) hx hb hX hbl hbA hS (law_in hi hiL (d := 2) (by decide) (by decide) (by decide)) dL_law_842 ?_
  refine ti_calli (va_runV (As := [.int (xs (i + 1).toNatClampNeg), .int (xs (i + 2).toNatClampNeg)]) (rest := []) ⟨hx, hb, hml, hown, hts⟩ (t_X9_gift l hT1 hy1 (iv_top _) (iv_top _)) (cwV 2 hts (good_V kw_1028 kw_1029 kw_1030 kw_2 kw_1031) rfl rfl rfl (by decide +kernel) ⟨by decide, by decide⟩) (ti_preV hK hT1 hy1 rfl rfl) rfl rfl hl.1 rfl (lv_room (Nat.le_of_ble_eq_true rfl)) dL_law_843 ⟨by decide, by decide⟩) hS (fun q h => hA1 q (pW_pA h)) (fun r1 H locs hB hS _ hk => ?_)
  obtain ⟨hT1, ir1⟩ := hB
  have hT2 := TI.frameW hT2 hdis hk
  refine lv_pop hx hb dL_law_846 rfl ?_
  refine lv_aload_n hx hb dL_law_847 rfl (lv_at hl 1 rfl) ?_
  refine lv_aload_n hx hb dL_law_848 rfl (lv_at hl 3 rfl) ?_
  refine lv_iload_n hx hb dL_law_849 rfl (lv_at hl 0 rfl) ?_
  refine lv_iconst (v := 1) hx hb dL_law_850 (by decide) ?_
  refine lv_iadd hx hb dL_law_851 ?_
  refine va_sld (i := i + 1) hx hb hX hbl hbA hS (law_in hi hiL (d := 1) (by decide) (by decide) (by decide)) dL_law_852 ?_
  refine lv_aload_n hx hb dL_law_853 rfl (lv_at hl 3 rfl) ?_
  refine lv_iload_n hx hb dL_law_854 rfl (lv_at hl 0 rfl) ?_
  refine lv_iconst (v := 2) hx hb dL_law_855 (by decide) ?_
  refine lv_iadd hx hb dL_law_856 ?_
  refine va_sld (i := i + 2) hx hb hX hbl hbA hS (law_in hi hiL (d := 2) (by decide) (by decide) (by decide)) dL_law_857 ?_
  refine ti_calli (va_runV (As := [.int (xs (i + 1).toNatClampNeg), .int (xs (i + 2).toNatClampNeg)]) (rest := []) ⟨hx, hb, hml, hown, hts⟩ (t_X10_gift l hT2 hy2 (iv_top _) (iv_top _) hν.1 hν.2.2.1 hU) (cwV 2 hts (good_V kw_1050 kw_1051 kw_1052 kw_5 kw_1053) rfl rfl rfl (by decide +kernel) ⟨by decide, by decide⟩) (ti_preV hK hT2 hy2 rfl rfl) rfl rfl hl.1 rfl (lv_room (Nat.le_of_ble_eq_true rfl)) dL_law_858 ⟨by decide, by decide⟩) hS (fun q h => hA2 q (pW_pA h)) (fun r2 H locs hB hS _ hk => ?_)
  obtain ⟨hT2, ir2⟩ := hB
  have hT1 := TI.frameW hT1 (fun q h1 h2 => hdis q h2 h1) hk
  refine lv_pop hx hb dL_law_861 rfl ?_
  refine lv_goto (tgt := 2019) hx hb dL_law_862 (by decide) ?_
  exact nxt ν2 H locs hT1 hT2 hν hS
set_option maxHeartbeats 8000000 in
set_option maxRecDepth 100000 in
theorem law_c19 {p : Program} {e : Env} {s : State} {m : MethodId} {below : List Frame} {meth : Method} {c : Code} (l : Launch) {b L : Nat} {xs : Nat → Int32} (hL : L ≤ 3072) (hx : p.tables.exec = Jvm.exec) (hb : c.code = code) (hr : meth.sig.returnType = ret) (hml : c.maxLocals = 4) (hown : s.vm.findClass RL = some m.cls) (hts : ∀ w ∈ wq, w.before #[Value.ref b] s = true) (hX : va_X b L xs s s.heap) (hbl : b < s.heap.size) (hlocks : meth.locks = false) {D : va_G} {c0 : Nat → ClassId} {Y1 Y2 : Nat → Option Nat} {o1 o2 : Nat} {adK adV : Nat → Nat} (hK : va_K D vwCl (tysOf c0) s) (hSO : SO (fun q : Nat => s.heap.size ≤ q) adK adV s s.heap) (hdis : ∀ q, pA Y1 q → pA Y2 q → False) (hU : uq Y2) (hy1 : Y1 o1 = some 9) (hA1 : ∀ q, pA Y1 q → s.heap.size ≤ q) (hy2 : Y2 o2 = some 10) (hA2 : ∀ q, pA Y2 q → s.heap.size ≤ q) {ν2 : Nat → Nat} {i : Int32} {H : Heap} {locs : List Loc} {ls : Array Slot} (hi : iv i 0 3066) (hiL : i.toInt + 6 ≤ (L : Int)) (hT1 : TI D vwCl (tysOf c0) (RTg (fun _ => 0)) Y1 H) (hT2 : TI D vwCl (tysOf c0) (RTg ν2) Y2 H) (hν : nuOK ν2) (hS : va_S (fun q : Nat => s.heap.size ≤ q) s.heap H locs) (hl : lv_has ls 4 [(3, .int i), (2, .ref o2), (1, .ref o1), (0, .ref b)]) (nxt : ∀ (ν2 : Nat → Nat) (H : Heap) (locs : List Loc), TI D vwCl (tysOf c0) (RTg (fun _ => 0)) Y1 H → TI D vwCl (tysOf c0) (RTg ν2) Y2 H → nuOK ν2 → va_S (fun q : Nat => s.heap.size ≤ q) s.heap H locs → W p l e room_1 s m #[Value.ref b] below meth c H locs 188 7230 (lw_Z below #[Value.ref b] s) (F0 m 2019 ls [])) : W p l e room_1 s m #[Value.ref b] below meth c H locs 188 7230 (lw_Z below #[Value.ref b] s) (F0 m 865 ls []) := by
  have hbA : ¬ (fun q : Nat => s.heap.size ≤ q) b := Nat.not_le.mpr hbl
  refine lv_aload_n hx hb dL_law_865 rfl (lv_at hl 2 rfl) ?_
  refine lv_aload_n hx hb dL_law_866 rfl (lv_at hl 3 rfl) ?_
  refine lv_iload_n hx hb dL_law_867 rfl (lv_at hl 0 rfl) ?_
  refine lv_iconst (v := 1) hx hb dL_law_868 (by decide) ?_
  refine lv_iadd hx hb dL_law_869 ?_
  refine va_sld (i := i + 1) hx hb hX hbl hbA hS (law_in hi hiL (d := 1) (by decide) (by decide) (by decide)) dL_law_870 ?_
  refine ti_calli (va_runV (As := [.int (xs (i + 1).toNatClampNeg)]) (rest := []) ⟨hx, hb, hml, hown, hts⟩ (t_X9_gifts l hT1 hy1 (iv_top _)) (cwV 1 hts (good_V kw_1062 kw_1063 kw_1064 kw_2 kw_1065) rfl rfl rfl (by decide +kernel) ⟨by decide, by decide⟩) (ti_preV hK hT1 hy1 rfl rfl) rfl rfl hl.1 rfl (lv_room (Nat.le_of_ble_eq_true rfl)) dL_law_871 ⟨by decide, by decide⟩) hS (fun q h => hA1 q (pW_pA h)) (fun r1 H locs hB hS _ hk => ?_)
  obtain ⟨hT1, ir1⟩ := hB
  have hT2 := TI.frameW hT2 hdis hk
  refine lv_pop hx hb dL_law_874 rfl ?_
  refine lv_aload_n hx hb dL_law_875 rfl (lv_at hl 1 rfl) ?_
  refine lv_aload_n hx hb dL_law_876 rfl (lv_at hl 3 rfl) ?_
  refine lv_iload_n hx hb dL_law_877 rfl (lv_at hl 0 rfl) ?_
  refine lv_iconst (v := 1) hx hb dL_law_878 (by decide) ?_
  refine lv_iadd hx hb dL_law_879 ?_
  refine va_sld (i := i + 1) hx hb hX hbl hbA hS (law_in hi hiL (d := 1) (by decide) (by decide) (by decide)) dL_law_880 ?_
  refine ti_calli (va_runV (As := [.int (xs (i + 1).toNatClampNeg)]) (rest := []) ⟨hx, hb, hml, hown, hts⟩ (t_X10_gifts l hT2 hy2 (iv_top _) hν.1 hν.2.2.1 hU) (cwV 1 hts (good_V kw_1066 kw_1067 kw_1068 kw_5 kw_1069) rfl rfl rfl (by decide +kernel) ⟨by decide, by decide⟩) (ti_preV hK hT2 hy2 rfl rfl) rfl rfl hl.1 rfl (lv_room (Nat.le_of_ble_eq_true rfl)) dL_law_881 ⟨by decide, by decide⟩) hS (fun q h => hA2 q (pW_pA h)) (fun r2 H locs hB hS _ hk => ?_)
  obtain ⟨hT2, ir2⟩ := hB
  have hT1 := TI.frameW hT1 (fun q h1 h2 => hdis q h2 h1) hk
  refine lv_pop hx hb dL_law_884 rfl ?_
  refine lv_goto (tgt := 2019) hx hb dL_law_885 (by decide) ?_
  exact nxt ν2 H locs hT1 hT2 hν hS
set_option maxHeartbeats 8000000 in
set_option maxRecDepth 100000 in
theorem law_c20 {p : Program} {e : Env} {s : State} {m : MethodId} {below : List Frame} {meth : Method} {c : Code} (l : Launch) {b L : Nat} {xs : Nat → Int32} (hL : L ≤ 3072) (hx : p.tables.exec = Jvm.exec) (hb : c.code = code) (hr : meth.sig.returnType = ret) (hml : c.maxLocals = 4) (hown : s.vm.findClass RL = some m.cls) (hts : ∀ w ∈ wq, w.before #[Value.ref b] s = true) (hX : va_X b L xs s s.heap) (hbl : b < s.heap.size) (hlocks : meth.locks = false) {D : va_G} {c0 : Nat → ClassId} {Y1 Y2 : Nat → Option Nat} {o1 o2 : Nat} {adK adV : Nat → Nat} (hK : va_K D vwCl (tysOf c0) s) (hSO : SO (fun q : Nat => s.heap.size ≤ q) adK adV s s.heap) (hdis : ∀ q, pA Y1 q → pA Y2 q → False) (hU : uq Y2) (hy1 : Y1 o1 = some 9) (hA1 : ∀ q, pA Y1 q → s.heap.size ≤ q) (hy2 : Y2 o2 = some 10) (hA2 : ∀ q, pA Y2 q → s.heap.size ≤ q) {ν2 : Nat → Nat} {i : Int32} {H : Heap} {locs : List Loc} {ls : Array Slot} (hi : iv i 0 3066) (hiL : i.toInt + 6 ≤ (L : Int)) (hT1 : TI D vwCl (tysOf c0) (RTg (fun _ => 0)) Y1 H) (hT2 : TI D vwCl (tysOf c0) (RTg ν2) Y2 H) (hν : nuOK ν2) (hS : va_S (fun q : Nat => s.heap.size ≤ q) s.heap H locs) (hl : lv_has ls 4 [(3, .int i), (2, .ref o2), (1, .ref o1), (0, .ref b)]) (nxt : ∀ (ν2 : Nat → Nat) (H : Heap) (locs : List Loc), TI D vwCl (tysOf c0) (RTg (fun _ => 0)) Y1 H → TI D vwCl (tysOf c0) (RTg ν2) Y2 H → nuOK ν2 → va_S (fun q : Nat => s.heap.size ≤ q) s.heap H locs → W p l e room_1 s m #[Value.ref b] below meth c H locs 188 7230 (lw_Z below #[Value.ref b] s) (F0 m 2019 ls [])) : W p l e room_1 s m #[Value.ref b] below meth c H locs 188 7230 (lw_Z below #[Value.ref b] s) (F0 m 888 ls []) := by
  have hbA : ¬ (fun q : Nat => s.heap.size ≤ q) b := Nat.not_le.mpr hbl
  refine lv_aload_n hx hb dL_law_888 rfl (lv_at hl 2 rfl) ?_
  refine ti_calli (va_runV (As := []) (rest := []) ⟨hx, hb, hml, hown, hts⟩ (t_X9_restless l hT1 hy1 ) (cwV 0 hts (good_V kw_1070 kw_1071 kw_1072 kw_2 kw_1073) rfl rfl rfl (by decide +kernel) ⟨by decide, by decide⟩) (ti_preV hK hT1 hy1 rfl rfl) rfl rfl hl.1 rfl (lv_room (Nat.le_of_ble_eq_true rfl)) dL_law_889 ⟨by decide, by decide⟩) hS (fun q h => hA1 q (pW_pA h)) (fun r1 H locs hB hS _ hk => ?_)
  have hT1 := hB
  have hT2 := TI.frameW hT2 hdis hk
  refine lv_pop hx hb dL_law_892 rfl ?_
  refine lv_aload_n hx hb dL_law_893 rfl (lv_at hl 1 rfl) ?_
  refine ti_calli (va_runV (As := []) (rest := []) ⟨hx, hb, hml, hown, hts⟩ (t_X10_restless l hT2 hy2 hU) (cwV 0 hts (good_V kw_1085 kw_1086 kw_1087 kw_5 kw_1088) rfl rfl rfl (by decide +kernel) ⟨by decide, by decide⟩) (ti_preV hK hT2 hy2 rfl rfl) rfl rfl hl.1 rfl (lv_room (Nat.le_of_ble_eq_true rfl)) dL_law_894 ⟨by decide, by decide⟩) hS (fun q h => hA2 q (pW_pA h)) (fun r2 H locs hB hS _ hk => ?_)
  have hT2 := hB
  have hT1 := TI.frameW hT1 (fun q h1 h2 => hdis q h2 h1) hk
  refine lv_pop hx hb dL_law_897 rfl ?_
  refine lv_goto (tgt := 2019) hx hb dL_law_898 (by decide) ?_
  exact nxt ν2 H locs hT1 hT2 hν hS
set_option maxHeartbeats 8000000 in
set_option maxRecDepth 100000 in
theorem law_c21 {p : Program} {e : Env} {s : State} {m : MethodId} {below : List Frame} {meth : Method} {c : Code} (l : Launch) {b L : Nat} {xs : Nat → Int32} (hL : L ≤ 3072) (hx : p.tables.exec = Jvm.exec) (hb : c.code = code) (hr : meth.sig.returnType = ret) (hml : c.maxLocals = 4) (hown : s.vm.findClass RL = some m.cls) (hts : ∀ w ∈ wq, w.before #[Value.ref b] s = true) (hX : va_X b L xs s s.heap) (hbl : b < s.heap.size) (hlocks : meth.locks = false) {D : va_G} {c0 : Nat → ClassId} {Y1 Y2 : Nat → Option Nat} {o1 o2 : Nat} {adK adV : Nat → Nat} (hK : va_K D vwCl (tysOf c0) s) (hSO : SO (fun q : Nat => s.heap.size ≤ q) adK adV s s.heap) (hdis : ∀ q, pA Y1 q → pA Y2 q → False) (hU : uq Y2) (hy1 : Y1 o1 = some 9) (hA1 : ∀ q, pA Y1 q → s.heap.size ≤ q) (hy2 : Y2 o2 = some 10) (hA2 : ∀ q, pA Y2 q → s.heap.size ≤ q) {ν2 : Nat → Nat} {i : Int32} {H : Heap} {locs : List Loc} {ls : Array Slot} (hi : iv i 0 3066) (hiL : i.toInt + 6 ≤ (L : Int)) (hT1 : TI D vwCl (tysOf c0) (RTg (fun _ => 0)) Y1 H) (hT2 : TI D vwCl (tysOf c0) (RTg ν2) Y2 H) (hν : nuOK ν2) (hS : va_S (fun q : Nat => s.heap.size ≤ q) s.heap H locs) (hl : lv_has ls 4 [(3, .int i), (2, .ref o2), (1, .ref o1), (0, .ref b)]) (nxt : ∀ (ν2 : Nat → Nat) (H : Heap) (locs : List Loc), TI D vwCl (tysOf c0) (RTg (fun _ => 0)) Y1 H → TI D vwCl (tysOf c0) (RTg ν2) Y2 H → nuOK ν2 → va_S (fun q : Nat => s.heap.size ≤ q) s.heap H locs → W p l e room_1 s m #[Value.ref b] below meth c H locs 188 7230 (lw_Z below #[Value.ref b] s) (F0 m 2019 ls [])) : W p l e room_1 s m #[Value.ref b] below meth c H locs 188 7230 (lw_Z below #[Value.ref b] s) (F0 m 901 ls []) := by
  have hbA : ¬ (fun q : Nat => s.heap.size ≤ q) b := Nat.not_le.mpr hbl
  refine lv_aload_n hx hb dL_law_901 rfl (lv_at hl 2 rfl) ?_
  refine lv_aload_n hx hb dL_law_902 rfl (lv_at hl 3 rfl) ?_
  refine lv_iload_n hx hb dL_law_903 rfl (lv_at hl 0 rfl) ?_
  refine lv_iconst (v := 1) hx hb dL_law_904 (by decide) ?_
  refine lv_iadd hx hb dL_law_905 ?_
  refine va_sld (i := i + 1) hx hb hX hbl hbA hS (law_in hi hiL (d := 1) (by decide) (by decide) (by decide)) dL_law_906 ?_
  refine ti_calli (va_runV (As := [.int (xs (i + 1).toNatClampNeg)]) (rest := []) ⟨hx, hb, hml, hown, hts⟩ (t_X9_rests l hT1 hy1 (iv_top _)) (cwV 1 hts (good_V kw_1097 kw_1098 kw_1099 kw_2 kw_1100) rfl rfl rfl (by decide +kernel) ⟨by decide, by decide⟩) (ti_preV hK hT1 hy1 rfl rfl) rfl rfl hl.1 rfl (lv_room (Nat.le_of_ble_eq_true rfl)) dL_law_907 ⟨by decide, by decide⟩) hS (fun q h => hA1 q (pW_pA h)) (fun r1 H locs hB hS _ hk => ?_)
  have hT1 := hB
  have hT2 := TI.frameW hT2 hdis hk
  refine lv_pop hx hb dL_law_910 rfl ?_
  refine lv_aload_n hx hb dL_law_911 rfl (lv_at hl 1 rfl) ?_
  refine lv_aload_n hx hb dL_law_912 rfl (lv_at hl 3 rfl) ?_
  refine lv_iload_n hx hb dL_law_913 rfl (lv_at hl 0 rfl) ?_
  refine lv_iconst (v := 1) hx hb dL_law_914 (by decide) ?_
  refine lv_iadd hx hb dL_law_915 ?_
  refine va_sld (i := i + 1) hx hb hX hbl hbA hS (law_in hi hiL (d := 1) (by decide) (by decide) (by decide)) dL_law_916 ?_
  refine ti_calli (va_runV (As := [.int (xs (i + 1).toNatClampNeg)]) (rest := []) ⟨hx, hb, hml, hown, hts⟩ (t_X10_rests l hT2 hy2 (iv_top _) hν.1 hν.2.2.1 hU) (cwV 1 hts (good_V kw_1102 kw_1103 kw_1104 kw_5 kw_1105) rfl rfl rfl (by decide +kernel) ⟨by decide, by decide⟩) (ti_preV hK hT2 hy2 rfl rfl) rfl rfl hl.1 rfl (lv_room (Nat.le_of_ble_eq_true rfl)) dL_law_917 ⟨by decide, by decide⟩) hS (fun q h => hA2 q (pW_pA h)) (fun r2 H locs hB hS _ hk => ?_)
  have hT2 := hB
  have hT1 := TI.frameW hT1 (fun q h1 h2 => hdis q h2 h1) hk
  refine lv_pop hx hb dL_law_920 rfl ?_
  refine lv_goto (tgt := 2019) hx hb dL_law_921 (by decide) ?_
  exact nxt ν2 H locs hT1 hT2 hν hS
