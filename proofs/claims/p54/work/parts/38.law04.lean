set_option maxHeartbeats 8000000 in
set_option maxRecDepth 100000 in
theorem law_c44 {p : Program} {e : Env} {s : State} {m : MethodId} {below : List Frame} {meth : Method} {c : Code} (l : Launch) {b L : Nat} {xs : Nat → Int32} (hL : L ≤ 3072) (hx : p.tables.exec = Jvm.exec) (hb : c.code = code) (hr : meth.sig.returnType = ret) (hml : c.maxLocals = 4) (hown : s.vm.findClass RL = some m.cls) (hts : ∀ w ∈ wq, w.before #[Value.ref b] s = true) (hX : va_X b L xs s s.heap) (hbl : b < s.heap.size) (hlocks : meth.locks = false) {D : va_G} {c0 : Nat → ClassId} {Y1 Y2 : Nat → Option Nat} {o1 o2 : Nat} {adK adV : Nat → Nat} (hK : va_K D vwCl (tysOf c0) s) (hSO : SO (fun q : Nat => s.heap.size ≤ q) adK adV s s.heap) (hdis : ∀ q, pA Y1 q → pA Y2 q → False) (hU : uq Y2) (hy1 : Y1 o1 = some 9) (hA1 : ∀ q, pA Y1 q → s.heap.size ≤ q) (hy2 : Y2 o2 = some 10) (hA2 : ∀ q, pA Y2 q → s.heap.size ≤ q) {ν2 : Nat → Nat} {i : Int32} {H : Heap} {locs : List Loc} {ls : Array Slot} (hi : iv i 0 3066) (hiL : i.toInt + 6 ≤ (L : Int)) (hT1 : TI D vwCl (tysOf c0) (RTg (fun _ => 0)) Y1 H) (hT2 : TI D vwCl (tysOf c0) (RTg ν2) Y2 H) (hν : nuOK ν2) (hS : va_S (fun q : Nat => s.heap.size ≤ q) s.heap H locs) (hl : lv_has ls 4 [(3, .int i), (2, .ref o2), (1, .ref o1), (0, .ref b)]) (nxt : ∀ (ν2 : Nat → Nat) (H : Heap) (locs : List Loc), TI D vwCl (tysOf c0) (RTg (fun _ => 0)) Y1 H → TI D vwCl (tysOf c0) (RTg ν2) Y2 H → nuOK ν2 → va_S (fun q : Nat => s.heap.size ≤ q) s.heap H locs → W p l e room_1 s m #[Value.ref b] below meth c H locs 188 7230 (lw_Z below #[Value.ref b] s) (F0 m 2019 ls [])) : W p l e room_1 s m #[Value.ref b] below meth c H locs 188 7230 (lw_Z below #[Value.ref b] s) (F0 m 1626 ls []) := by
  have hbA : ¬ (fun q : Nat => s.heap.size ≤ q) b := Nat.not_le.mpr hbl
  refine lv_aload_n hx hb dL_law_1626 rfl (lv_at hl 2 rfl) ?_
  refine lv_aload_n hx hb dL_law_1627 rfl (lv_at hl 3 rfl) ?_
  refine lv_iload_n hx hb dL_law_1628 rfl (lv_at hl 0 rfl) ?_
  refine lv_iconst (v := 1) hx hb dL_law_1629 (by decide) ?_
  refine lv_iadd hx hb dL_law_1630 ?_
  refine va_sld (i := i + 1) hx hb hX hbl hbA hS (law_in hi hiL (d := 1) (by decide) (by decide) (by decide)) dL_law_1631 ?_
  refine lv_aload_n hx hb dL_law_1632 rfl (lv_at hl 3 rfl) ?_
  refine lv_iload_n hx hb dL_law_1633 rfl (lv_at hl 0 rfl) ?_
  refine lv_iconst (v := 2) hx hb dL_law_1634 (by decide) ?_
  refine lv_iadd hx hb dL_law_1635 ?_
  refine va_sld (i := i + 2) hx hb hX hbl hbA hS (law_in hi hiL (d := 2) (by decide) (by decide) (by decide)) dL_law_1636 ?_
  refine lv_aload_n hx hb dL_law_1637 rfl (lv_at hl 3 rfl) ?_
  refine lv_iload_n hx hb dL_law_1638 rfl (lv_at hl 0 rfl) ?_
  refine lv_iconst (v := 3) hx hb dL_law_1639 (by decide) ?_
  refine lv_iadd hx hb dL_law_1640 ?_
  refine va_sld (i := i + 3) hx hb hX hbl hbA hS (law_in hi hiL (d := 3) (by decide) (by decide) (by decide)) dL_law_1641 ?_
  refine ti_calli (va_runV (As := [.int (xs (i + 1).toNatClampNeg), .int (xs (i + 2).toNatClampNeg), .int (xs (i + 3).toNatClampNeg)]) (rest := []) ⟨hx, hb, hml, hown, hts⟩ (t_X9_plan l hT1 hy1 (iv_top _) (iv_top _) (iv_top _)) (cwV 3 hts (good_V kw_1430 kw_1431 kw_1432 kw_2 kw_1433) rfl rfl rfl (by decide +kernel) ⟨by decide, by decide⟩) (ti_preV hK hT1 hy1 rfl rfl) rfl rfl hl.1 rfl (lv_room (Nat.le_of_ble_eq_true rfl)) dL_law_1642 ⟨by decide, by decide⟩) hS (fun q h => hA1 q (pW_pA h)) (fun r1 H locs hB hS _ hk => ?_)
  have hT1 := hB
  have hT2 := TI.frameW hT2 hdis hk
  refine lv_pop hx hb dL_law_1645 rfl ?_
  refine lv_aload_n hx hb dL_law_1646 rfl (lv_at hl 1 rfl) ?_
  refine lv_aload_n hx hb dL_law_1647 rfl (lv_at hl 3 rfl) ?_
  refine lv_iload_n hx hb dL_law_1648 rfl (lv_at hl 0 rfl) ?_
  refine lv_iconst (v := 1) hx hb dL_law_1649 (by decide) ?_
  refine lv_iadd hx hb dL_law_1650 ?_
  refine va_sld (i := i + 1) hx hb hX hbl hbA hS (law_in hi hiL (d := 1) (by decide) (by decide) (by decide)) dL_law_1651 ?_
  refine lv_aload_n hx hb dL_law_1652 rfl (lv_at hl 3 rfl) ?_
  refine lv_iload_n hx hb dL_law_1653 rfl (lv_at hl 0 rfl) ?_
  refine lv_iconst (v := 2) hx hb dL_law_1654 (by decide) ?_
  refine lv_iadd hx hb dL_law_1655 ?_
  refine va_sld (i := i + 2) hx hb hX hbl hbA hS (law_in hi hiL (d := 2) (by decide) (by decide) (by decide)) dL_law_1656 ?_
  refine lv_aload_n hx hb dL_law_1657 rfl (lv_at hl 3 rfl) ?_
  refine lv_iload_n hx hb dL_law_1658 rfl (lv_at hl 0 rfl) ?_
  refine lv_iconst (v := 3) hx hb dL_law_1659 (by decide) ?_
  refine lv_iadd hx hb dL_law_1660 ?_
  refine va_sld (i := i + 3) hx hb hX hbl hbA hS (law_in hi hiL (d := 3) (by decide) (by decide) (by decide)) dL_law_1661 ?_
  refine ti_calli (va_runV (As := [.int (xs (i + 1).toNatClampNeg), .int (xs (i + 2).toNatClampNeg), .int (xs (i + 3).toNatClampNeg)]) (rest := []) ⟨hx, hb, hml, hown, hts⟩ (t_X10_plan l hT2 hy2 (iv_top _) (iv_top _) (iv_top _) hν.1 hν.2.2.1 hU) (cwV 3 hts (good_V kw_1442 kw_1443 kw_1444 kw_5 kw_1445) rfl rfl rfl (by decide +kernel) ⟨by decide, by decide⟩) (ti_preV hK hT2 hy2 rfl rfl) rfl rfl hl.1 rfl (lv_room (Nat.le_of_ble_eq_true rfl)) dL_law_1662 ⟨by decide, by decide⟩) hS (fun q h => hA2 q (pW_pA h)) (fun r2 H locs hB hS _ hk => ?_)
  have hT2 := hB
  have hT1 := TI.frameW hT1 (fun q h1 h2 => hdis q h2 h1) hk
  refine lv_pop hx hb dL_law_1665 rfl ?_
  refine lv_goto (tgt := 2019) hx hb dL_law_1666 (by decide) ?_
  exact nxt ν2 H locs hT1 hT2 hν hS
set_option maxHeartbeats 8000000 in
set_option maxRecDepth 100000 in
theorem law_c45 {p : Program} {e : Env} {s : State} {m : MethodId} {below : List Frame} {meth : Method} {c : Code} (l : Launch) {b L : Nat} {xs : Nat → Int32} (hL : L ≤ 3072) (hx : p.tables.exec = Jvm.exec) (hb : c.code = code) (hr : meth.sig.returnType = ret) (hml : c.maxLocals = 4) (hown : s.vm.findClass RL = some m.cls) (hts : ∀ w ∈ wq, w.before #[Value.ref b] s = true) (hX : va_X b L xs s s.heap) (hbl : b < s.heap.size) (hlocks : meth.locks = false) {D : va_G} {c0 : Nat → ClassId} {Y1 Y2 : Nat → Option Nat} {o1 o2 : Nat} {adK adV : Nat → Nat} (hK : va_K D vwCl (tysOf c0) s) (hSO : SO (fun q : Nat => s.heap.size ≤ q) adK adV s s.heap) (hdis : ∀ q, pA Y1 q → pA Y2 q → False) (hU : uq Y2) (hy1 : Y1 o1 = some 9) (hA1 : ∀ q, pA Y1 q → s.heap.size ≤ q) (hy2 : Y2 o2 = some 10) (hA2 : ∀ q, pA Y2 q → s.heap.size ≤ q) {ν2 : Nat → Nat} {i : Int32} {H : Heap} {locs : List Loc} {ls : Array Slot} (hi : iv i 0 3066) (hiL : i.toInt + 6 ≤ (L : Int)) (hT1 : TI D vwCl (tysOf c0) (RTg (fun _ => 0)) Y1 H) (hT2 : TI D vwCl (tysOf c0) (RTg ν2) Y2 H) (hν : nuOK ν2) (hS : va_S (fun q : Nat => s.heap.size ≤ q) s.heap H locs) (hl : lv_has ls 4 [(3, .int i), (2, .ref o2), (1, .ref o1), (0, .ref b)]) (nxt : ∀ (ν2 : Nat → Nat) (H : Heap) (locs : List Loc), TI D vwCl (tysOf c0) (RTg (fun _ => 0)) Y1 H → TI D vwCl (tysOf c0) (RTg ν2) Y2 H → nuOK ν2 → va_S (fun q : Nat => s.heap.size ≤ q) s.heap H locs → W p l e room_1 s m #[Value.ref b] below meth c H locs 188 7230 (lw_Z below #[Value.ref b] s) (F0 m 2019 ls [])) : W p l e room_1 s m #[Value.ref b] below meth c H locs 188 7230 (lw_Z below #[Value.ref b] s) (F0 m 1669 ls []) := by
  have hbA : ¬ (fun q : Nat => s.heap.size ≤ q) b := Nat.not_le.mpr hbl
  refine lv_aload_n hx hb dL_law_1669 rfl (lv_at hl 2 rfl) ?_
  refine ti_calli (va_runV (As := []) (rest := []) ⟨hx, hb, hml, hown, hts⟩ (t_X9_open l hT1 hy1 ) (cwV 0 hts (good_V kw_1446 kw_1447 kw_1448 kw_2 kw_1449) rfl rfl rfl (by decide +kernel) ⟨by decide, by decide⟩) (ti_preV hK hT1 hy1 rfl rfl) rfl rfl hl.1 rfl (lv_room (Nat.le_of_ble_eq_true rfl)) dL_law_1670 ⟨by decide, by decide⟩) hS (fun q h => hA1 q (pW_pA h)) (fun r1 H locs hB hS _ hk => ?_)
  have hT1 := hB
  have hT2 := TI.frameW hT2 hdis hk
  refine lv_pop hx hb dL_law_1673 rfl ?_
  refine lv_aload_n hx hb dL_law_1674 rfl (lv_at hl 1 rfl) ?_
  refine ti_calli (va_runV (As := []) (rest := []) ⟨hx, hb, hml, hown, hts⟩ (t_X10_open l hT2 hy2 hU) (cwV 0 hts (good_V kw_1452 kw_1453 kw_1454 kw_5 kw_1455) rfl rfl rfl (by decide +kernel) ⟨by decide, by decide⟩) (ti_preV hK hT2 hy2 rfl rfl) rfl rfl hl.1 rfl (lv_room (Nat.le_of_ble_eq_true rfl)) dL_law_1675 ⟨by decide, by decide⟩) hS (fun q h => hA2 q (pW_pA h)) (fun r2 H locs hB hS _ hk => ?_)
  have hT2 := hB
  have hT1 := TI.frameW hT1 (fun q h1 h2 => hdis q h2 h1) hk
  refine lv_pop hx hb dL_law_1678 rfl ?_
  refine lv_goto (tgt := 2019) hx hb dL_law_1679 (by decide) ?_
  exact nxt ν2 H locs hT1 hT2 hν hS
set_option maxHeartbeats 8000000 in
set_option maxRecDepth 100000 in
theorem law_c46 {p : Program} {e : Env} {s : State} {m : MethodId} {below : List Frame} {meth : Method} {c : Code} (l : Launch) {b L : Nat} {xs : Nat → Int32} (hL : L ≤ 3072) (hx : p.tables.exec = Jvm.exec) (hb : c.code = code) (hr : meth.sig.returnType = ret) (hml : c.maxLocals = 4) (hown : s.vm.findClass RL = some m.cls) (hts : ∀ w ∈ wq, w.before #[Value.ref b] s = true) (hX : va_X b L xs s s.heap) (hbl : b < s.heap.size) (hlocks : meth.locks = false) {D : va_G} {c0 : Nat → ClassId} {Y1 Y2 : Nat → Option Nat} {o1 o2 : Nat} {adK adV : Nat → Nat} (hK : va_K D vwCl (tysOf c0) s) (hSO : SO (fun q : Nat => s.heap.size ≤ q) adK adV s s.heap) (hdis : ∀ q, pA Y1 q → pA Y2 q → False) (hU : uq Y2) (hy1 : Y1 o1 = some 9) (hA1 : ∀ q, pA Y1 q → s.heap.size ≤ q) (hy2 : Y2 o2 = some 10) (hA2 : ∀ q, pA Y2 q → s.heap.size ≤ q) {ν2 : Nat → Nat} {i : Int32} {H : Heap} {locs : List Loc} {ls : Array Slot} (hi : iv i 0 3066) (hiL : i.toInt + 6 ≤ (L : Int)) (hT1 : TI D vwCl (tysOf c0) (RTg (fun _ => 0)) Y1 H) (hT2 : TI D vwCl (tysOf c0) (RTg ν2) Y2 H) (hν : nuOK ν2) (hS : va_S (fun q : Nat => s.heap.size ≤ q) s.heap H locs) (hl : lv_has ls 4 [(3, .int i), (2, .ref o2), (1, .ref o1), (0, .ref b)]) (nxt : ∀ (ν2 : Nat → Nat) (H : Heap) (locs : List Loc), TI D vwCl (tysOf c0) (RTg (fun _ => 0)) Y1 H → TI D vwCl (tysOf c0) (RTg ν2) Y2 H → nuOK ν2 → va_S (fun q : Nat => s.heap.size ≤ q) s.heap H locs → W p l e room_1 s m #[Value.ref b] below meth c H locs 188 7230 (lw_Z below #[Value.ref b] s) (F0 m 2019 ls [])) : W p l e room_1 s m #[Value.ref b] below meth c H locs 188 7230 (lw_Z below #[Value.ref b] s) (F0 m 1682 ls []) := by
  have hbA : ¬ (fun q : Nat => s.heap.size ≤ q) b := Nat.not_le.mpr hbl
  refine lv_aload_n hx hb dL_law_1682 rfl (lv_at hl 2 rfl) ?_
  refine lv_aload_n hx hb dL_law_1683 rfl (lv_at hl 3 rfl) ?_
  refine lv_iload_n hx hb dL_law_1684 rfl (lv_at hl 0 rfl) ?_
  refine lv_iconst (v := 1) hx hb dL_law_1685 (by decide) ?_
  refine lv_iadd hx hb dL_law_1686 ?_
  refine va_sld (i := i + 1) hx hb hX hbl hbA hS (law_in hi hiL (d := 1) (by decide) (by decide) (by decide)) dL_law_1687 ?_
  refine lv_aload_n hx hb dL_law_1688 rfl (lv_at hl 3 rfl) ?_
  refine lv_iload_n hx hb dL_law_1689 rfl (lv_at hl 0 rfl) ?_
  refine lv_iconst (v := 2) hx hb dL_law_1690 (by decide) ?_
  refine lv_iadd hx hb dL_law_1691 ?_
  refine va_sld (i := i + 2) hx hb hX hbl hbA hS (law_in hi hiL (d := 2) (by decide) (by decide) (by decide)) dL_law_1692 ?_
  refine ti_calli (va_runV (As := [.int (xs (i + 1).toNatClampNeg), .int (xs (i + 2).toNatClampNeg)]) (rest := []) ⟨hx, hb, hml, hown, hts⟩ (t_X9_duel l hT1 hy1 (iv_top _) (iv_top _)) (cwV 2 hts (good_V kw_1456 kw_1457 kw_1458 kw_2 kw_1459) rfl rfl rfl (by decide +kernel) ⟨by decide, by decide⟩) (ti_preV hK hT1 hy1 rfl rfl) rfl rfl hl.1 rfl (lv_room (Nat.le_of_ble_eq_true rfl)) dL_law_1693 ⟨by decide, by decide⟩) hS (fun q h => hA1 q (pW_pA h)) (fun r1 H locs hB hS _ hk => ?_)
  have hT1 := hB
  have hT2 := TI.frameW hT2 hdis hk
  refine lv_pop hx hb dL_law_1696 rfl ?_
  refine lv_aload_n hx hb dL_law_1697 rfl (lv_at hl 1 rfl) ?_
  refine lv_aload_n hx hb dL_law_1698 rfl (lv_at hl 3 rfl) ?_
  refine lv_iload_n hx hb dL_law_1699 rfl (lv_at hl 0 rfl) ?_
  refine lv_iconst (v := 1) hx hb dL_law_1700 (by decide) ?_
  refine lv_iadd hx hb dL_law_1701 ?_
  refine va_sld (i := i + 1) hx hb hX hbl hbA hS (law_in hi hiL (d := 1) (by decide) (by decide) (by decide)) dL_law_1702 ?_
  refine lv_aload_n hx hb dL_law_1703 rfl (lv_at hl 3 rfl) ?_
  refine lv_iload_n hx hb dL_law_1704 rfl (lv_at hl 0 rfl) ?_
  refine lv_iconst (v := 2) hx hb dL_law_1705 (by decide) ?_
  refine lv_iadd hx hb dL_law_1706 ?_
  refine va_sld (i := i + 2) hx hb hX hbl hbA hS (law_in hi hiL (d := 2) (by decide) (by decide) (by decide)) dL_law_1707 ?_
  refine ti_calli (va_runV (As := [.int (xs (i + 1).toNatClampNeg), .int (xs (i + 2).toNatClampNeg)]) (rest := []) ⟨hx, hb, hml, hown, hts⟩ (t_X10_duel l hT2 hy2 (iv_top _) (iv_top _) hν.1 hν.2.2.1 hU) (cwV 2 hts (good_V kw_1472 kw_1473 kw_1474 kw_5 kw_1475) rfl rfl rfl (by decide +kernel) ⟨by decide, by decide⟩) (ti_preV hK hT2 hy2 rfl rfl) rfl rfl hl.1 rfl (lv_room (Nat.le_of_ble_eq_true rfl)) dL_law_1708 ⟨by decide, by decide⟩) hS (fun q h => hA2 q (pW_pA h)) (fun r2 H locs hB hS _ hk => ?_)
  have hT2 := hB
  have hT1 := TI.frameW hT1 (fun q h1 h2 => hdis q h2 h1) hk
  refine lv_pop hx hb dL_law_1711 rfl ?_
  refine lv_goto (tgt := 2019) hx hb dL_law_1712 (by decide) ?_
  exact nxt ν2 H locs hT1 hT2 hν hS
set_option maxHeartbeats 8000000 in
set_option maxRecDepth 100000 in
theorem law_c47 {p : Program} {e : Env} {s : State} {m : MethodId} {below : List Frame} {meth : Method} {c : Code} (l : Launch) {b L : Nat} {xs : Nat → Int32} (hL : L ≤ 3072) (hx : p.tables.exec = Jvm.exec) (hb : c.code = code) (hr : meth.sig.returnType = ret) (hml : c.maxLocals = 4) (hown : s.vm.findClass RL = some m.cls) (hts : ∀ w ∈ wq, w.before #[Value.ref b] s = true) (hX : va_X b L xs s s.heap) (hbl : b < s.heap.size) (hlocks : meth.locks = false) {D : va_G} {c0 : Nat → ClassId} {Y1 Y2 : Nat → Option Nat} {o1 o2 : Nat} {adK adV : Nat → Nat} (hK : va_K D vwCl (tysOf c0) s) (hSO : SO (fun q : Nat => s.heap.size ≤ q) adK adV s s.heap) (hdis : ∀ q, pA Y1 q → pA Y2 q → False) (hU : uq Y2) (hy1 : Y1 o1 = some 9) (hA1 : ∀ q, pA Y1 q → s.heap.size ≤ q) (hy2 : Y2 o2 = some 10) (hA2 : ∀ q, pA Y2 q → s.heap.size ≤ q) {ν2 : Nat → Nat} {i : Int32} {H : Heap} {locs : List Loc} {ls : Array Slot} (hi : iv i 0 3066) (hiL : i.toInt + 6 ≤ (L : Int)) (hT1 : TI D vwCl (tysOf c0) (RTg (fun _ => 0)) Y1 H) (hT2 : TI D vwCl (tysOf c0) (RTg ν2) Y2 H) (hν : nuOK ν2) (hS : va_S (fun q : Nat => s.heap.size ≤ q) s.heap H locs) (hl : lv_has ls 4 [(3, .int i), (2, .ref o2), (1, .ref o1), (0, .ref b)]) (nxt : ∀ (ν2 : Nat → Nat) (H : Heap) (locs : List Loc), TI D vwCl (tysOf c0) (RTg (fun _ => 0)) Y1 H → TI D vwCl (tysOf c0) (RTg ν2) Y2 H → nuOK ν2 → va_S (fun q : Nat => s.heap.size ≤ q) s.heap H locs → W p l e room_1 s m #[Value.ref b] below meth c H locs 188 7230 (lw_Z below #[Value.ref b] s) (F0 m 2019 ls [])) : W p l e room_1 s m #[Value.ref b] below meth c H locs 188 7230 (lw_Z below #[Value.ref b] s) (F0 m 1715 ls []) := by
  have hbA : ¬ (fun q : Nat => s.heap.size ≤ q) b := Nat.not_le.mpr hbl
  refine lv_aload_n hx hb dL_law_1715 rfl (lv_at hl 2 rfl) ?_
  refine lv_aload_n hx hb dL_law_1716 rfl (lv_at hl 3 rfl) ?_
  refine lv_iload_n hx hb dL_law_1717 rfl (lv_at hl 0 rfl) ?_
  refine lv_iconst (v := 1) hx hb dL_law_1718 (by decide) ?_
  refine lv_iadd hx hb dL_law_1719 ?_
  refine va_sld (i := i + 1) hx hb hX hbl hbA hS (law_in hi hiL (d := 1) (by decide) (by decide) (by decide)) dL_law_1720 ?_
  refine lv_aload_n hx hb dL_law_1721 rfl (lv_at hl 3 rfl) ?_
  refine lv_iload_n hx hb dL_law_1722 rfl (lv_at hl 0 rfl) ?_
  refine lv_iconst (v := 2) hx hb dL_law_1723 (by decide) ?_
  refine lv_iadd hx hb dL_law_1724 ?_
  refine va_sld (i := i + 2) hx hb hX hbl hbA hS (law_in hi hiL (d := 2) (by decide) (by decide) (by decide)) dL_law_1725 ?_
  refine ti_calli (va_runV (As := [.int (xs (i + 1).toNatClampNeg), .int (xs (i + 2).toNatClampNeg)]) (rest := []) ⟨hx, hb, hml, hown, hts⟩ (t_X9_mixed l hT1 hy1 (iv_top _) (iv_top _)) (cwV 2 hts (good_V kw_1480 kw_1481 kw_1482 kw_2 kw_1483) rfl rfl rfl (by decide +kernel) ⟨by decide, by decide⟩) (ti_preV hK hT1 hy1 rfl rfl) rfl rfl hl.1 rfl (lv_room (Nat.le_of_ble_eq_true rfl)) dL_law_1726 ⟨by decide, by decide⟩) hS (fun q h => hA1 q (pW_pA h)) (fun r1 H locs hB hS _ hk => ?_)
  obtain ⟨hT1, ir1⟩ := hB
  have hT2 := TI.frameW hT2 hdis hk
  refine lv_pop hx hb dL_law_1729 rfl ?_
  refine lv_aload_n hx hb dL_law_1730 rfl (lv_at hl 1 rfl) ?_
  refine lv_aload_n hx hb dL_law_1731 rfl (lv_at hl 3 rfl) ?_
  refine lv_iload_n hx hb dL_law_1732 rfl (lv_at hl 0 rfl) ?_
  refine lv_iconst (v := 1) hx hb dL_law_1733 (by decide) ?_
  refine lv_iadd hx hb dL_law_1734 ?_
  refine va_sld (i := i + 1) hx hb hX hbl hbA hS (law_in hi hiL (d := 1) (by decide) (by decide) (by decide)) dL_law_1735 ?_
  refine lv_aload_n hx hb dL_law_1736 rfl (lv_at hl 3 rfl) ?_
  refine lv_iload_n hx hb dL_law_1737 rfl (lv_at hl 0 rfl) ?_
  refine lv_iconst (v := 2) hx hb dL_law_1738 (by decide) ?_
  refine lv_iadd hx hb dL_law_1739 ?_
  refine va_sld (i := i + 2) hx hb hX hbl hbA hS (law_in hi hiL (d := 2) (by decide) (by decide) (by decide)) dL_law_1740 ?_
  refine ti_calli (va_runV (As := [.int (xs (i + 1).toNatClampNeg), .int (xs (i + 2).toNatClampNeg)]) (rest := []) ⟨hx, hb, hml, hown, hts⟩ (t_X10_mixed l hT2 hy2 (iv_top _) (iv_top _) hν.1 hν.2.2.1 hU) (cwV 2 hts (good_V kw_1484 kw_1485 kw_1486 kw_5 kw_1487) rfl rfl rfl (by decide +kernel) ⟨by decide, by decide⟩) (ti_preV hK hT2 hy2 rfl rfl) rfl rfl hl.1 rfl (lv_room (Nat.le_of_ble_eq_true rfl)) dL_law_1741 ⟨by decide, by decide⟩) hS (fun q h => hA2 q (pW_pA h)) (fun r2 H locs hB hS _ hk => ?_)
  have hT2 := hB
  have hT1 := TI.frameW hT1 (fun q h1 h2 => hdis q h2 h1) hk
  refine lv_pop hx hb dL_law_1744 rfl ?_
  refine lv_goto (tgt := 2019) hx hb dL_law_1745 (by decide) ?_
  exact nxt ν2 H locs hT1 hT2 hν hS
set_option maxHeartbeats 8000000 in
set_option maxRecDepth 100000 in
theorem law_c48 {p : Program} {e : Env} {s : State} {m : MethodId} {below : List Frame} {meth : Method} {c : Code} (l : Launch) {b L : Nat} {xs : Nat → Int32} (hL : L ≤ 3072) (hx : p.tables.exec = Jvm.exec) (hb : c.code = code) (hr : meth.sig.returnType = ret) (hml : c.maxLocals = 4) (hown : s.vm.findClass RL = some m.cls) (hts : ∀ w ∈ wq, w.before #[Value.ref b] s = true) (hX : va_X b L xs s s.heap) (hbl : b < s.heap.size) (hlocks : meth.locks = false) {D : va_G} {c0 : Nat → ClassId} {Y1 Y2 : Nat → Option Nat} {o1 o2 : Nat} {adK adV : Nat → Nat} (hK : va_K D vwCl (tysOf c0) s) (hSO : SO (fun q : Nat => s.heap.size ≤ q) adK adV s s.heap) (hdis : ∀ q, pA Y1 q → pA Y2 q → False) (hU : uq Y2) (hy1 : Y1 o1 = some 9) (hA1 : ∀ q, pA Y1 q → s.heap.size ≤ q) (hy2 : Y2 o2 = some 10) (hA2 : ∀ q, pA Y2 q → s.heap.size ≤ q) {ν2 : Nat → Nat} {i : Int32} {H : Heap} {locs : List Loc} {ls : Array Slot} (hi : iv i 0 3066) (hiL : i.toInt + 6 ≤ (L : Int)) (hT1 : TI D vwCl (tysOf c0) (RTg (fun _ => 0)) Y1 H) (hT2 : TI D vwCl (tysOf c0) (RTg ν2) Y2 H) (hν : nuOK ν2) (hS : va_S (fun q : Nat => s.heap.size ≤ q) s.heap H locs) (hl : lv_has ls 4 [(3, .int i), (2, .ref o2), (1, .ref o1), (0, .ref b)]) (nxt : ∀ (ν2 : Nat → Nat) (H : Heap) (locs : List Loc), TI D vwCl (tysOf c0) (RTg (fun _ => 0)) Y1 H → TI D vwCl (tysOf c0) (RTg ν2) Y2 H → nuOK ν2 → va_S (fun q : Nat => s.heap.size ≤ q) s.heap H locs → W p l e room_1 s m #[Value.ref b] below meth c H locs 188 7230 (lw_Z below #[Value.ref b] s) (F0 m 2019 ls [])) : W p l e room_1 s m #[Value.ref b] below meth c H locs 188 7230 (lw_Z below #[Value.ref b] s) (F0 m 1748 ls []) := by
  have hbA : ¬ (fun q : Nat => s.heap.size ≤ q) b := Nat.not_le.mpr hbl
  refine lv_aload_n hx hb dL_law_1748 rfl (lv_at hl 2 rfl) ?_
  refine lv_aload_n hx hb dL_law_1749 rfl (lv_at hl 3 rfl) ?_
  refine lv_iload_n hx hb dL_law_1750 rfl (lv_at hl 0 rfl) ?_
  refine lv_iconst (v := 1) hx hb dL_law_1751 (by decide) ?_
  refine lv_iadd hx hb dL_law_1752 ?_
  refine va_sld (i := i + 1) hx hb hX hbl hbA hS (law_in hi hiL (d := 1) (by decide) (by decide) (by decide)) dL_law_1753 ?_
  refine ti_calli (va_runV (As := [.int (xs (i + 1).toNatClampNeg)]) (rest := []) ⟨hx, hb, hml, hown, hts⟩ (t_X9_seed l hT1 hy1 (iv_top _)) (cwV 1 hts (good_V kw_1489 kw_1490 kw_1491 kw_2 kw_1492) rfl rfl rfl (by decide +kernel) ⟨by decide, by decide⟩) (ti_preV hK hT1 hy1 rfl rfl) rfl rfl hl.1 rfl (lv_room (Nat.le_of_ble_eq_true rfl)) dL_law_1754 ⟨by decide, by decide⟩) hS (fun q h => hA1 q (pW_pA h)) (fun r1 H locs hB hS _ hk => ?_)
  obtain ⟨hT1, ir1⟩ := hB
  have hT2 := TI.frameW hT2 hdis hk
  refine lv_pop hx hb dL_law_1757 rfl ?_
  refine lv_aload_n hx hb dL_law_1758 rfl (lv_at hl 1 rfl) ?_
  refine lv_aload_n hx hb dL_law_1759 rfl (lv_at hl 3 rfl) ?_
  refine lv_iload_n hx hb dL_law_1760 rfl (lv_at hl 0 rfl) ?_
  refine lv_iconst (v := 1) hx hb dL_law_1761 (by decide) ?_
  refine lv_iadd hx hb dL_law_1762 ?_
  refine va_sld (i := i + 1) hx hb hX hbl hbA hS (law_in hi hiL (d := 1) (by decide) (by decide) (by decide)) dL_law_1763 ?_
  refine ti_calli (va_runV (As := [.int (xs (i + 1).toNatClampNeg)]) (rest := []) ⟨hx, hb, hml, hown, hts⟩ (t_X10_seed l hT2 hy2 (iv_top _) hU) (cwV 1 hts (good_V kw_1495 kw_1496 kw_1497 kw_5 kw_1498) rfl rfl rfl (by decide +kernel) ⟨by decide, by decide⟩) (ti_preV hK hT2 hy2 rfl rfl) rfl rfl hl.1 rfl (lv_room (Nat.le_of_ble_eq_true rfl)) dL_law_1764 ⟨by decide, by decide⟩) hS (fun q h => hA2 q (pW_pA h)) (fun r2 H locs hB hS _ hk => ?_)
  obtain ⟨hT2, ir2⟩ := hB
  have hT1 := TI.frameW hT1 (fun q h1 h2 => hdis q h2 h1) hk
  refine lv_pop hx hb dL_law_1767 rfl ?_
  refine lv_goto (tgt := 2019) hx hb dL_law_1768 (by decide) ?_
  exact nxt ν2 H locs hT1 hT2 hν hS
set_option maxHeartbeats 8000000 in
set_option maxRecDepth 100000 in
theorem law_c49 {p : Program} {e : Env} {s : State} {m : MethodId} {below : List Frame} {meth : Method} {c : Code} (l : Launch) {b L : Nat} {xs : Nat → Int32} (hL : L ≤ 3072) (hx : p.tables.exec = Jvm.exec) (hb : c.code = code) (hr : meth.sig.returnType = ret) (hml : c.maxLocals = 4) (hown : s.vm.findClass RL = some m.cls) (hts : ∀ w ∈ wq, w.before #[Value.ref b] s = true) (hX : va_X b L xs s s.heap) (hbl : b < s.heap.size) (hlocks : meth.locks = false) {D : va_G} {c0 : Nat → ClassId} {Y1 Y2 : Nat → Option Nat} {o1 o2 : Nat} {adK adV : Nat → Nat} (hK : va_K D vwCl (tysOf c0) s) (hSO : SO (fun q : Nat => s.heap.size ≤ q) adK adV s s.heap) (hdis : ∀ q, pA Y1 q → pA Y2 q → False) (hU : uq Y2) (hy1 : Y1 o1 = some 9) (hA1 : ∀ q, pA Y1 q → s.heap.size ≤ q) (hy2 : Y2 o2 = some 10) (hA2 : ∀ q, pA Y2 q → s.heap.size ≤ q) {ν2 : Nat → Nat} {i : Int32} {H : Heap} {locs : List Loc} {ls : Array Slot} (hi : iv i 0 3066) (hiL : i.toInt + 6 ≤ (L : Int)) (hT1 : TI D vwCl (tysOf c0) (RTg (fun _ => 0)) Y1 H) (hT2 : TI D vwCl (tysOf c0) (RTg ν2) Y2 H) (hν : nuOK ν2) (hS : va_S (fun q : Nat => s.heap.size ≤ q) s.heap H locs) (hl : lv_has ls 4 [(3, .int i), (2, .ref o2), (1, .ref o1), (0, .ref b)]) (nxt : ∀ (ν2 : Nat → Nat) (H : Heap) (locs : List Loc), TI D vwCl (tysOf c0) (RTg (fun _ => 0)) Y1 H → TI D vwCl (tysOf c0) (RTg ν2) Y2 H → nuOK ν2 → va_S (fun q : Nat => s.heap.size ≤ q) s.heap H locs → W p l e room_1 s m #[Value.ref b] below meth c H locs 188 7230 (lw_Z below #[Value.ref b] s) (F0 m 2019 ls [])) : W p l e room_1 s m #[Value.ref b] below meth c H locs 188 7230 (lw_Z below #[Value.ref b] s) (F0 m 1771 ls []) := by
  have hbA : ¬ (fun q : Nat => s.heap.size ≤ q) b := Nat.not_le.mpr hbl
  refine lv_aload_n hx hb dL_law_1771 rfl (lv_at hl 2 rfl) ?_
  refine lv_aload_n hx hb dL_law_1772 rfl (lv_at hl 3 rfl) ?_
  refine lv_iload_n hx hb dL_law_1773 rfl (lv_at hl 0 rfl) ?_
  refine lv_iconst (v := 1) hx hb dL_law_1774 (by decide) ?_
  refine lv_iadd hx hb dL_law_1775 ?_
  refine va_sld (i := i + 1) hx hb hX hbl hbA hS (law_in hi hiL (d := 1) (by decide) (by decide) (by decide)) dL_law_1776 ?_
  refine ti_calli (va_runV (As := [.int (xs (i + 1).toNatClampNeg)]) (rest := []) ⟨hx, hb, hml, hown, hts⟩ (t_X9_count l hT1 hy1 (iv_top _)) (cwV 1 hts (good_V kw_1500 kw_1501 kw_1502 kw_2 kw_1503) rfl rfl rfl (by decide +kernel) ⟨by decide, by decide⟩) (ti_preV hK hT1 hy1 rfl rfl) rfl rfl hl.1 rfl (lv_room (Nat.le_of_ble_eq_true rfl)) dL_law_1777 ⟨by decide, by decide⟩) hS (fun q h => hA1 q (pW_pA h)) (fun r1 H1 locs hB hS _ hk => ?_)
  have hH := hB
  rw [hH] at hS ⊢
  refine lv_pop hx hb dL_law_1780 rfl ?_
  refine lv_aload_n hx hb dL_law_1781 rfl (lv_at hl 1 rfl) ?_
  refine lv_aload_n hx hb dL_law_1782 rfl (lv_at hl 3 rfl) ?_
  refine lv_iload_n hx hb dL_law_1783 rfl (lv_at hl 0 rfl) ?_
  refine lv_iconst (v := 1) hx hb dL_law_1784 (by decide) ?_
  refine lv_iadd hx hb dL_law_1785 ?_
  refine va_sld (i := i + 1) hx hb hX hbl hbA hS (law_in hi hiL (d := 1) (by decide) (by decide) (by decide)) dL_law_1786 ?_
  refine ti_calli (va_runV (As := [.int (xs (i + 1).toNatClampNeg)]) (rest := []) ⟨hx, hb, hml, hown, hts⟩ (t_X10_count l hT2 hy2 (iv_top _) hν.2.2.2 hU) (cwV 1 hts (good_V kw_1509 kw_1510 kw_1511 kw_5 kw_1512) rfl rfl rfl (by decide +kernel) ⟨by decide, by decide⟩) (ti_preV hK hT2 hy2 rfl rfl) rfl rfl hl.1 rfl (lv_room (Nat.le_of_ble_eq_true rfl)) dL_law_1787 ⟨by decide, by decide⟩) hS (fun q h => hA2 q (pW_pA h)) (fun r2 H1 locs hB hS _ hk => ?_)
  have hH := hB
  rw [hH] at hS ⊢
  refine lv_pop hx hb dL_law_1790 rfl ?_
  refine lv_goto (tgt := 2019) hx hb dL_law_1791 (by decide) ?_
  exact nxt ν2 H locs hT1 hT2 hν hS
set_option maxHeartbeats 8000000 in
set_option maxRecDepth 100000 in
theorem law_c50 {p : Program} {e : Env} {s : State} {m : MethodId} {below : List Frame} {meth : Method} {c : Code} (l : Launch) {b L : Nat} {xs : Nat → Int32} (hL : L ≤ 3072) (hx : p.tables.exec = Jvm.exec) (hb : c.code = code) (hr : meth.sig.returnType = ret) (hml : c.maxLocals = 4) (hown : s.vm.findClass RL = some m.cls) (hts : ∀ w ∈ wq, w.before #[Value.ref b] s = true) (hX : va_X b L xs s s.heap) (hbl : b < s.heap.size) (hlocks : meth.locks = false) {D : va_G} {c0 : Nat → ClassId} {Y1 Y2 : Nat → Option Nat} {o1 o2 : Nat} {adK adV : Nat → Nat} (hK : va_K D vwCl (tysOf c0) s) (hSO : SO (fun q : Nat => s.heap.size ≤ q) adK adV s s.heap) (hdis : ∀ q, pA Y1 q → pA Y2 q → False) (hU : uq Y2) (hy1 : Y1 o1 = some 9) (hA1 : ∀ q, pA Y1 q → s.heap.size ≤ q) (hy2 : Y2 o2 = some 10) (hA2 : ∀ q, pA Y2 q → s.heap.size ≤ q) {ν2 : Nat → Nat} {i : Int32} {H : Heap} {locs : List Loc} {ls : Array Slot} (hi : iv i 0 3066) (hiL : i.toInt + 6 ≤ (L : Int)) (hT1 : TI D vwCl (tysOf c0) (RTg (fun _ => 0)) Y1 H) (hT2 : TI D vwCl (tysOf c0) (RTg ν2) Y2 H) (hν : nuOK ν2) (hS : va_S (fun q : Nat => s.heap.size ≤ q) s.heap H locs) (hl : lv_has ls 4 [(3, .int i), (2, .ref o2), (1, .ref o1), (0, .ref b)]) (nxt : ∀ (ν2 : Nat → Nat) (H : Heap) (locs : List Loc), TI D vwCl (tysOf c0) (RTg (fun _ => 0)) Y1 H → TI D vwCl (tysOf c0) (RTg ν2) Y2 H → nuOK ν2 → va_S (fun q : Nat => s.heap.size ≤ q) s.heap H locs → W p l e room_1 s m #[Value.ref b] below meth c H locs 188 7230 (lw_Z below #[Value.ref b] s) (F0 m 2019 ls [])) : W p l e room_1 s m #[Value.ref b] below meth c H locs 188 7230 (lw_Z below #[Value.ref b] s) (F0 m 1794 ls []) := by
  have hbA : ¬ (fun q : Nat => s.heap.size ≤ q) b := Nat.not_le.mpr hbl
  refine lv_aload_n hx hb dL_law_1794 rfl (lv_at hl 2 rfl) ?_
  refine lv_aload_n hx hb dL_law_1795 rfl (lv_at hl 3 rfl) ?_
  refine lv_iload_n hx hb dL_law_1796 rfl (lv_at hl 0 rfl) ?_
  refine lv_iconst (v := 1) hx hb dL_law_1797 (by decide) ?_
  refine lv_iadd hx hb dL_law_1798 ?_
  refine va_sld (i := i + 1) hx hb hX hbl hbA hS (law_in hi hiL (d := 1) (by decide) (by decide) (by decide)) dL_law_1799 ?_
  refine ti_calli (va_runV (As := [.int (xs (i + 1).toNatClampNeg)]) (rest := []) ⟨hx, hb, hml, hown, hts⟩ (t_X9_keep l hT1 hy1 (iv_top _)) (cwV 1 hts (good_V kw_1513 kw_1514 kw_1515 kw_2 kw_1516) rfl rfl rfl (by decide +kernel) ⟨by decide, by decide⟩) (ti_preV hK hT1 hy1 rfl rfl) rfl rfl hl.1 rfl (lv_room (Nat.le_of_ble_eq_true rfl)) dL_law_1800 ⟨by decide, by decide⟩) hS (fun q h => hA1 q (pW_pA h)) (fun r1 H locs hB hS _ hk => ?_)
  obtain ⟨hT1, ir1⟩ := hB
  have hT2 := TI.frameW hT2 hdis hk
  refine lv_pop hx hb dL_law_1803 rfl ?_
  refine lv_aload_n hx hb dL_law_1804 rfl (lv_at hl 1 rfl) ?_
  refine lv_aload_n hx hb dL_law_1805 rfl (lv_at hl 3 rfl) ?_
  refine lv_iload_n hx hb dL_law_1806 rfl (lv_at hl 0 rfl) ?_
  refine lv_iconst (v := 1) hx hb dL_law_1807 (by decide) ?_
  refine lv_iadd hx hb dL_law_1808 ?_
  refine va_sld (i := i + 1) hx hb hX hbl hbA hS (law_in hi hiL (d := 1) (by decide) (by decide) (by decide)) dL_law_1809 ?_
  refine ti_calli (va_runV (As := [.int (xs (i + 1).toNatClampNeg)]) (rest := []) ⟨hx, hb, hml, hown, hts⟩ (t_X10_keep l hT2 hy2 (iv_top _) hU) (cwV 1 hts (good_V kw_1517 kw_1518 kw_1519 kw_5 kw_1520) rfl rfl rfl (by decide +kernel) ⟨by decide, by decide⟩) (ti_preV hK hT2 hy2 rfl rfl) rfl rfl hl.1 rfl (lv_room (Nat.le_of_ble_eq_true rfl)) dL_law_1810 ⟨by decide, by decide⟩) hS (fun q h => hA2 q (pW_pA h)) (fun r2 H locs hB hS _ hk => ?_)
  obtain ⟨⟨ν2, hνk, hT2⟩, ir2⟩ := hB
  have hν : nuOK ν2 := ⟨(hνk 3 (by decide)).trans hν.1, (hνk 4 (by decide)).trans hν.2.1, (hνk 5 (by decide)).trans hν.2.2.1, fun j hj => by rw [hνk (6 + j) (by omega)]; exact hν.2.2.2 j hj⟩
  have hT1 := TI.frameW hT1 (fun q h1 h2 => hdis q h2 h1) hk
  refine lv_pop hx hb dL_law_1813 rfl ?_
  refine lv_goto (tgt := 2019) hx hb dL_law_1814 (by decide) ?_
  exact nxt ν2 H locs hT1 hT2 hν hS
set_option maxHeartbeats 8000000 in
set_option maxRecDepth 100000 in
theorem law_c51 {p : Program} {e : Env} {s : State} {m : MethodId} {below : List Frame} {meth : Method} {c : Code} (l : Launch) {b L : Nat} {xs : Nat → Int32} (hL : L ≤ 3072) (hx : p.tables.exec = Jvm.exec) (hb : c.code = code) (hr : meth.sig.returnType = ret) (hml : c.maxLocals = 4) (hown : s.vm.findClass RL = some m.cls) (hts : ∀ w ∈ wq, w.before #[Value.ref b] s = true) (hX : va_X b L xs s s.heap) (hbl : b < s.heap.size) (hlocks : meth.locks = false) {D : va_G} {c0 : Nat → ClassId} {Y1 Y2 : Nat → Option Nat} {o1 o2 : Nat} {adK adV : Nat → Nat} (hK : va_K D vwCl (tysOf c0) s) (hSO : SO (fun q : Nat => s.heap.size ≤ q) adK adV s s.heap) (hdis : ∀ q, pA Y1 q → pA Y2 q → False) (hU : uq Y2) (hy1 : Y1 o1 = some 9) (hA1 : ∀ q, pA Y1 q → s.heap.size ≤ q) (hy2 : Y2 o2 = some 10) (hA2 : ∀ q, pA Y2 q → s.heap.size ≤ q) {ν2 : Nat → Nat} {i : Int32} {H : Heap} {locs : List Loc} {ls : Array Slot} (hi : iv i 0 3066) (hiL : i.toInt + 6 ≤ (L : Int)) (hT1 : TI D vwCl (tysOf c0) (RTg (fun _ => 0)) Y1 H) (hT2 : TI D vwCl (tysOf c0) (RTg ν2) Y2 H) (hν : nuOK ν2) (hS : va_S (fun q : Nat => s.heap.size ≤ q) s.heap H locs) (hl : lv_has ls 4 [(3, .int i), (2, .ref o2), (1, .ref o1), (0, .ref b)]) (nxt : ∀ (ν2 : Nat → Nat) (H : Heap) (locs : List Loc), TI D vwCl (tysOf c0) (RTg (fun _ => 0)) Y1 H → TI D vwCl (tysOf c0) (RTg ν2) Y2 H → nuOK ν2 → va_S (fun q : Nat => s.heap.size ≤ q) s.heap H locs → W p l e room_1 s m #[Value.ref b] below meth c H locs 188 7230 (lw_Z below #[Value.ref b] s) (F0 m 2019 ls [])) : W p l e room_1 s m #[Value.ref b] below meth c H locs 188 7230 (lw_Z below #[Value.ref b] s) (F0 m 1817 ls []) := by
  have hbA : ¬ (fun q : Nat => s.heap.size ≤ q) b := Nat.not_le.mpr hbl
  refine lv_aload_n hx hb dL_law_1817 rfl (lv_at hl 2 rfl) ?_
  refine lv_aload_n hx hb dL_law_1818 rfl (lv_at hl 3 rfl) ?_
  refine lv_iload_n hx hb dL_law_1819 rfl (lv_at hl 0 rfl) ?_
  refine lv_iconst (v := 1) hx hb dL_law_1820 (by decide) ?_
  refine lv_iadd hx hb dL_law_1821 ?_
  refine va_sld (i := i + 1) hx hb hX hbl hbA hS (law_in hi hiL (d := 1) (by decide) (by decide) (by decide)) dL_law_1822 ?_
  refine ti_calli (va_runV (As := [.int (xs (i + 1).toNatClampNeg)]) (rest := []) ⟨hx, hb, hml, hown, hts⟩ (t_X9_back l hT1 hy1 (iv_top _)) (cwV 1 hts (good_V kw_1521 kw_1522 kw_1523 kw_2 kw_1524) rfl rfl rfl (by decide +kernel) ⟨by decide, by decide⟩) (ti_preV hK hT1 hy1 rfl rfl) rfl rfl hl.1 rfl (lv_room (Nat.le_of_ble_eq_true rfl)) dL_law_1823 ⟨by decide, by decide⟩) hS (fun q h => hA1 q (pW_pA h)) (fun r1 H locs hB hS _ hk => ?_)
  obtain ⟨hT1, ir1⟩ := hB
  have hT2 := TI.frameW hT2 hdis hk
  refine lv_pop hx hb dL_law_1826 rfl ?_
  refine lv_aload_n hx hb dL_law_1827 rfl (lv_at hl 1 rfl) ?_
  refine lv_aload_n hx hb dL_law_1828 rfl (lv_at hl 3 rfl) ?_
  refine lv_iload_n hx hb dL_law_1829 rfl (lv_at hl 0 rfl) ?_
  refine lv_iconst (v := 1) hx hb dL_law_1830 (by decide) ?_
  refine lv_iadd hx hb dL_law_1831 ?_
  refine va_sld (i := i + 1) hx hb hX hbl hbA hS (law_in hi hiL (d := 1) (by decide) (by decide) (by decide)) dL_law_1832 ?_
  refine ti_calli (va_runV (As := [.int (xs (i + 1).toNatClampNeg)]) (rest := []) ⟨hx, hb, hml, hown, hts⟩ (t_X10_back l hT2 hy2 (iv_top _) hU) (cwV 1 hts (good_V kw_1525 kw_1526 kw_1527 kw_5 kw_1528) rfl rfl rfl (by decide +kernel) ⟨by decide, by decide⟩) (ti_preV hK hT2 hy2 rfl rfl) rfl rfl hl.1 rfl (lv_room (Nat.le_of_ble_eq_true rfl)) dL_law_1833 ⟨by decide, by decide⟩) hS (fun q h => hA2 q (pW_pA h)) (fun r2 H locs hB hS _ hk => ?_)
  obtain ⟨hT2, ir2⟩ := hB
  have hT1 := TI.frameW hT1 (fun q h1 h2 => hdis q h2 h1) hk
  refine lv_pop hx hb dL_law_1836 rfl ?_
  refine lv_goto (tgt := 2019) hx hb dL_law_1837 (by decide) ?_
  exact nxt ν2 H locs hT1 hT2 hν hS
set_option maxHeartbeats 8000000 in
set_option maxRecDepth 100000 in
theorem law_c52 {p : Program} {e : Env} {s : State} {m : MethodId} {below : List Frame} {meth : Method} {c : Code} (l : Launch) {b L : Nat} {xs : Nat → Int32} (hL : L ≤ 3072) (hx : p.tables.exec = Jvm.exec) (hb : c.code = code) (hr : meth.sig.returnType = ret) (hml : c.maxLocals = 4) (hown : s.vm.findClass RL = some m.cls) (hts : ∀ w ∈ wq, w.before #[Value.ref b] s = true) (hX : va_X b L xs s s.heap) (hbl : b < s.heap.size) (hlocks : meth.locks = false) {D : va_G} {c0 : Nat → ClassId} {Y1 Y2 : Nat → Option Nat} {o1 o2 : Nat} {adK adV : Nat → Nat} (hK : va_K D vwCl (tysOf c0) s) (hSO : SO (fun q : Nat => s.heap.size ≤ q) adK adV s s.heap) (hdis : ∀ q, pA Y1 q → pA Y2 q → False) (hU : uq Y2) (hy1 : Y1 o1 = some 9) (hA1 : ∀ q, pA Y1 q → s.heap.size ≤ q) (hy2 : Y2 o2 = some 10) (hA2 : ∀ q, pA Y2 q → s.heap.size ≤ q) {ν2 : Nat → Nat} {i : Int32} {H : Heap} {locs : List Loc} {ls : Array Slot} (hi : iv i 0 3066) (hiL : i.toInt + 6 ≤ (L : Int)) (hT1 : TI D vwCl (tysOf c0) (RTg (fun _ => 0)) Y1 H) (hT2 : TI D vwCl (tysOf c0) (RTg ν2) Y2 H) (hν : nuOK ν2) (hS : va_S (fun q : Nat => s.heap.size ≤ q) s.heap H locs) (hl : lv_has ls 4 [(3, .int i), (2, .ref o2), (1, .ref o1), (0, .ref b)]) (nxt : ∀ (ν2 : Nat → Nat) (H : Heap) (locs : List Loc), TI D vwCl (tysOf c0) (RTg (fun _ => 0)) Y1 H → TI D vwCl (tysOf c0) (RTg ν2) Y2 H → nuOK ν2 → va_S (fun q : Nat => s.heap.size ≤ q) s.heap H locs → W p l e room_1 s m #[Value.ref b] below meth c H locs 188 7230 (lw_Z below #[Value.ref b] s) (F0 m 2019 ls [])) : W p l e room_1 s m #[Value.ref b] below meth c H locs 188 7230 (lw_Z below #[Value.ref b] s) (F0 m 1840 ls []) := by
  have hbA : ¬ (fun q : Nat => s.heap.size ≤ q) b := Nat.not_le.mpr hbl
  refine lv_aload_n hx hb dL_law_1840 rfl (lv_at hl 2 rfl) ?_
  refine lv_aload_n hx hb dL_law_1841 rfl (lv_at hl 3 rfl) ?_
  refine lv_iload_n hx hb dL_law_1842 rfl (lv_at hl 0 rfl) ?_
  refine lv_iconst (v := 1) hx hb dL_law_1843 (by decide) ?_
  refine lv_iadd hx hb dL_law_1844 ?_
  refine va_sld (i := i + 1) hx hb hX hbl hbA hS (law_in hi hiL (d := 1) (by decide) (by decide) (by decide)) dL_law_1845 ?_
  refine lv_aload_n hx hb dL_law_1846 rfl (lv_at hl 3 rfl) ?_
  refine lv_iload_n hx hb dL_law_1847 rfl (lv_at hl 0 rfl) ?_
  refine lv_iconst (v := 2) hx hb dL_law_1848 (by decide) ?_
  refine lv_iadd hx hb dL_law_1849 ?_
  refine va_sld (i := i + 2) hx hb hX hbl hbA hS (law_in hi hiL (d := 2) (by decide) (by decide) (by decide)) dL_law_1850 ?_
  refine lv_aload_n hx hb dL_law_1851 rfl (lv_at hl 3 rfl) ?_
  refine lv_iload_n hx hb dL_law_1852 rfl (lv_at hl 0 rfl) ?_
  refine lv_iconst (v := 3) hx hb dL_law_1853 (by decide) ?_
  refine lv_iadd hx hb dL_law_1854 ?_
  refine va_sld (i := i + 3) hx hb hX hbl hbA hS (law_in hi hiL (d := 3) (by decide) (by decide) (by decide)) dL_law_1855 ?_
  refine ti_calli (va_runV (As := [.int (xs (i + 1).toNatClampNeg), .int (xs (i + 2).toNatClampNeg), .int (xs (i + 3).toNatClampNeg)]) (rest := []) ⟨hx, hb, hml, hown, hts⟩ (t_X9_row_x l hT1 hy1 (iv_top _) (iv_top _) (iv_top _)) (cwV 3 hts (good_V kw_1529 kw_1530 kw_1531 kw_2 kw_1532) rfl rfl rfl (by decide +kernel) ⟨by decide, by decide⟩) (ti_preV hK hT1 hy1 rfl rfl) rfl rfl hl.1 rfl (lv_room (Nat.le_of_ble_eq_true rfl)) dL_law_1856 ⟨by decide, by decide⟩) hS (fun q h => hA1 q (pW_pA h)) (fun r1 H locs hB hS _ hk => ?_)
  obtain ⟨hT1, ir1, pr1⟩ := hB
  have hT2 := TI.frameW hT2 hdis hk
  refine lv_aload_n hx hb dL_law_1859 rfl (lv_at hl 1 rfl) ?_
  refine lv_aload_n hx hb dL_law_1860 rfl (lv_at hl 3 rfl) ?_
  refine lv_iload_n hx hb dL_law_1861 rfl (lv_at hl 0 rfl) ?_
  refine lv_iconst (v := 1) hx hb dL_law_1862 (by decide) ?_
  refine lv_iadd hx hb dL_law_1863 ?_
  refine va_sld (i := i + 1) hx hb hX hbl hbA hS (law_in hi hiL (d := 1) (by decide) (by decide) (by decide)) dL_law_1864 ?_
  refine lv_aload_n hx hb dL_law_1865 rfl (lv_at hl 3 rfl) ?_
  refine lv_iload_n hx hb dL_law_1866 rfl (lv_at hl 0 rfl) ?_
  refine lv_iconst (v := 2) hx hb dL_law_1867 (by decide) ?_
  refine lv_iadd hx hb dL_law_1868 ?_
  refine va_sld (i := i + 2) hx hb hX hbl hbA hS (law_in hi hiL (d := 2) (by decide) (by decide) (by decide)) dL_law_1869 ?_
  refine lv_aload_n hx hb dL_law_1870 rfl (lv_at hl 3 rfl) ?_
  refine lv_iload_n hx hb dL_law_1871 rfl (lv_at hl 0 rfl) ?_
  refine lv_iconst (v := 3) hx hb dL_law_1872 (by decide) ?_
  refine lv_iadd hx hb dL_law_1873 ?_
  refine va_sld (i := i + 3) hx hb hX hbl hbA hS (law_in hi hiL (d := 3) (by decide) (by decide) (by decide)) dL_law_1874 ?_
  refine ti_calli (va_runV (As := [.int (xs (i + 1).toNatClampNeg), .int (xs (i + 2).toNatClampNeg), .int (xs (i + 3).toNatClampNeg)]) (rest := [.int r1]) ⟨hx, hb, hml, hown, hts⟩ (t_X10_row_x l hT2 hy2 (iv_top _) (iv_top _) (iv_top _) hν.2.2.2 hU) (cwV 3 hts (good_V kw_1543 kw_1544 kw_1545 kw_5 kw_1546) rfl rfl rfl (by decide +kernel) ⟨by decide, by decide⟩) (ti_preV hK hT2 hy2 rfl rfl) rfl rfl hl.1 rfl (lv_room (Nat.le_of_ble_eq_true rfl)) dL_law_1875 ⟨by decide, by decide⟩) hS (fun q h => hA2 q (pW_pA h)) (fun r2 H locs hB hS _ hk => ?_)
  obtain ⟨⟨ν2, hν6, hν61, hT2⟩, ir2, pr2⟩ := hB
  have hν : nuOK ν2 := ⟨(hν6 3 (by decide)).trans hν.1, (hν6 4 (by decide)).trans hν.2.1, (hν6 5 (by decide)).trans hν.2.2.1, hν61⟩
  have hT1 := TI.frameW hT1 (fun q h1 h2 => hdis q h2 h1) hk
  refine lv_icmp_eq (tgt := 2019) hx hb dL_law_1878 (by decide) (fun _ => ?_) (fun h => ?_)
  · exact nxt ν2 H locs hT1 hT2 hν hS
  · exact absurd (Int32.toInt_inj.mp (by omega)) h
set_option maxHeartbeats 8000000 in
set_option maxRecDepth 100000 in
theorem law_c53 {p : Program} {e : Env} {s : State} {m : MethodId} {below : List Frame} {meth : Method} {c : Code} (l : Launch) {b L : Nat} {xs : Nat → Int32} (hL : L ≤ 3072) (hx : p.tables.exec = Jvm.exec) (hb : c.code = code) (hr : meth.sig.returnType = ret) (hml : c.maxLocals = 4) (hown : s.vm.findClass RL = some m.cls) (hts : ∀ w ∈ wq, w.before #[Value.ref b] s = true) (hX : va_X b L xs s s.heap) (hbl : b < s.heap.size) (hlocks : meth.locks = false) {D : va_G} {c0 : Nat → ClassId} {Y1 Y2 : Nat → Option Nat} {o1 o2 : Nat} {adK adV : Nat → Nat} (hK : va_K D vwCl (tysOf c0) s) (hSO : SO (fun q : Nat => s.heap.size ≤ q) adK adV s s.heap) (hdis : ∀ q, pA Y1 q → pA Y2 q → False) (hU : uq Y2) (hy1 : Y1 o1 = some 9) (hA1 : ∀ q, pA Y1 q → s.heap.size ≤ q) (hy2 : Y2 o2 = some 10) (hA2 : ∀ q, pA Y2 q → s.heap.size ≤ q) {ν2 : Nat → Nat} {i : Int32} {H : Heap} {locs : List Loc} {ls : Array Slot} (hi : iv i 0 3066) (hiL : i.toInt + 6 ≤ (L : Int)) (hT1 : TI D vwCl (tysOf c0) (RTg (fun _ => 0)) Y1 H) (hT2 : TI D vwCl (tysOf c0) (RTg ν2) Y2 H) (hν : nuOK ν2) (hS : va_S (fun q : Nat => s.heap.size ≤ q) s.heap H locs) (hl : lv_has ls 4 [(3, .int i), (2, .ref o2), (1, .ref o1), (0, .ref b)]) (nxt : ∀ (ν2 : Nat → Nat) (H : Heap) (locs : List Loc), TI D vwCl (tysOf c0) (RTg (fun _ => 0)) Y1 H → TI D vwCl (tysOf c0) (RTg ν2) Y2 H → nuOK ν2 → va_S (fun q : Nat => s.heap.size ≤ q) s.heap H locs → W p l e room_1 s m #[Value.ref b] below meth c H locs 188 7230 (lw_Z below #[Value.ref b] s) (F0 m 2019 ls [])) : W p l e room_1 s m #[Value.ref b] below meth c H locs 188 7230 (lw_Z below #[Value.ref b] s) (F0 m 1883 ls []) := by
  have hbA : ¬ (fun q : Nat => s.heap.size ≤ q) b := Nat.not_le.mpr hbl
  refine lv_aload_n hx hb dL_law_1883 rfl (lv_at hl 2 rfl) ?_
  refine lv_aload_n hx hb dL_law_1884 rfl (lv_at hl 3 rfl) ?_
  refine lv_iload_n hx hb dL_law_1885 rfl (lv_at hl 0 rfl) ?_
  refine lv_iconst (v := 1) hx hb dL_law_1886 (by decide) ?_
  refine lv_iadd hx hb dL_law_1887 ?_
  refine va_sld (i := i + 1) hx hb hX hbl hbA hS (law_in hi hiL (d := 1) (by decide) (by decide) (by decide)) dL_law_1888 ?_
  refine lv_aload_n hx hb dL_law_1889 rfl (lv_at hl 3 rfl) ?_
  refine lv_iload_n hx hb dL_law_1890 rfl (lv_at hl 0 rfl) ?_
  refine lv_iconst (v := 2) hx hb dL_law_1891 (by decide) ?_
  refine lv_iadd hx hb dL_law_1892 ?_
  refine va_sld (i := i + 2) hx hb hX hbl hbA hS (law_in hi hiL (d := 2) (by decide) (by decide) (by decide)) dL_law_1893 ?_
  refine lv_aload_n hx hb dL_law_1894 rfl (lv_at hl 3 rfl) ?_
  refine lv_iload_n hx hb dL_law_1895 rfl (lv_at hl 0 rfl) ?_
  refine lv_iconst (v := 3) hx hb dL_law_1896 (by decide) ?_
  refine lv_iadd hx hb dL_law_1897 ?_
  refine va_sld (i := i + 3) hx hb hX hbl hbA hS (law_in hi hiL (d := 3) (by decide) (by decide) (by decide)) dL_law_1898 ?_
  refine lv_i2l hx hb dL_law_1899 rfl ?_
  refine lv_bipush (v := 32) hx hb dL_law_1900 (by decide) ?_
  refine lv_lshl hx hb dL_law_1902 rfl ?_
  refine lv_topl (fun y1902 e1902 => ?_)
  refine lv_aload_n hx hb dL_law_1903 rfl (lv_at hl 3 rfl) ?_
  refine lv_iload_n hx hb dL_law_1904 rfl (lv_at hl 0 rfl) ?_
  refine lv_iconst (v := 4) hx hb dL_law_1905 (by decide) ?_
  refine lv_iadd hx hb dL_law_1906 ?_
  refine va_sld (i := i + 4) hx hb hX hbl hbA hS (law_in hi hiL (d := 4) (by decide) (by decide) (by decide)) dL_law_1907 ?_
  refine lv_i2l hx hb dL_law_1908 rfl ?_
  refine lv_ldc2 (v := 4294967295) hx hb hown (hts _ kw_6) dL_law_1909 ?_
  refine lv_land hx hb dL_law_1912 ?_
  refine lv_topl (fun y1912 e1912 => ?_)
  refine lv_lor hx hb dL_law_1913 ?_
  refine lv_topl (fun y1913 e1913 => ?_)
  refine ti_calli (va_runV (As := [.int (xs (i + 1).toNatClampNeg), .int (xs (i + 2).toNatClampNeg), .long y1913]) (rest := []) ⟨hx, hb, hml, hown, hts⟩ (t_X9_write l hT1 hy1 (iv_top _) (iv_top _) (jv_top _)) (cwV 3 hts (good_V kw_1547 kw_1548 kw_1549 kw_2 kw_1550) rfl rfl rfl (by decide +kernel) ⟨by decide, by decide⟩) (ti_preV hK hT1 hy1 rfl rfl) rfl rfl hl.1 rfl (lv_room (Nat.le_of_ble_eq_true rfl)) dL_law_1914 ⟨by decide, by decide⟩) hS (fun q h => hA1 q (pW_pA h)) (fun r1 H locs hB hS _ hk => ?_)
  obtain ⟨hT1, ir1⟩ := hB
  have hT2 := TI.frameW hT2 hdis hk
  refine lv_pop hx hb dL_law_1917 rfl ?_
  refine lv_aload_n hx hb dL_law_1918 rfl (lv_at hl 1 rfl) ?_
  refine lv_aload_n hx hb dL_law_1919 rfl (lv_at hl 3 rfl) ?_
  refine lv_iload_n hx hb dL_law_1920 rfl (lv_at hl 0 rfl) ?_
  refine lv_iconst (v := 1) hx hb dL_law_1921 (by decide) ?_
  refine lv_iadd hx hb dL_law_1922 ?_
  refine va_sld (i := i + 1) hx hb hX hbl hbA hS (law_in hi hiL (d := 1) (by decide) (by decide) (by decide)) dL_law_1923 ?_
  refine lv_aload_n hx hb dL_law_1924 rfl (lv_at hl 3 rfl) ?_
  refine lv_iload_n hx hb dL_law_1925 rfl (lv_at hl 0 rfl) ?_
  refine lv_iconst (v := 2) hx hb dL_law_1926 (by decide) ?_
  refine lv_iadd hx hb dL_law_1927 ?_
  refine va_sld (i := i + 2) hx hb hX hbl hbA hS (law_in hi hiL (d := 2) (by decide) (by decide) (by decide)) dL_law_1928 ?_
  refine lv_aload_n hx hb dL_law_1929 rfl (lv_at hl 3 rfl) ?_
  refine lv_iload_n hx hb dL_law_1930 rfl (lv_at hl 0 rfl) ?_
  refine lv_iconst (v := 3) hx hb dL_law_1931 (by decide) ?_
  refine lv_iadd hx hb dL_law_1932 ?_
  refine va_sld (i := i + 3) hx hb hX hbl hbA hS (law_in hi hiL (d := 3) (by decide) (by decide) (by decide)) dL_law_1933 ?_
  refine lv_i2l hx hb dL_law_1934 rfl ?_
  refine lv_bipush (v := 32) hx hb dL_law_1935 (by decide) ?_
  refine lv_lshl hx hb dL_law_1937 rfl ?_
  refine lv_topl (fun y1937 e1937 => ?_)
  refine lv_aload_n hx hb dL_law_1938 rfl (lv_at hl 3 rfl) ?_
  refine lv_iload_n hx hb dL_law_1939 rfl (lv_at hl 0 rfl) ?_
  refine lv_iconst (v := 4) hx hb dL_law_1940 (by decide) ?_
  refine lv_iadd hx hb dL_law_1941 ?_
  refine va_sld (i := i + 4) hx hb hX hbl hbA hS (law_in hi hiL (d := 4) (by decide) (by decide) (by decide)) dL_law_1942 ?_
  refine lv_i2l hx hb dL_law_1943 rfl ?_
  refine lv_ldc2 (v := 4294967295) hx hb hown (hts _ kw_6) dL_law_1944 ?_
  refine lv_land hx hb dL_law_1947 ?_
  refine lv_topl (fun y1947 e1947 => ?_)
  refine lv_lor hx hb dL_law_1948 ?_
  refine lv_topl (fun y1948 e1948 => ?_)
  refine ti_calli (va_runV (As := [.int (xs (i + 1).toNatClampNeg), .int (xs (i + 2).toNatClampNeg), .long y1948]) (rest := []) ⟨hx, hb, hml, hown, hts⟩ (t_X10_write l hT2 hy2 (iv_top _) (iv_top _) (jv_top _) hν.2.2.2 hU) (cwV 3 hts (good_V kw_1555 kw_1556 kw_1557 kw_5 kw_1558) rfl rfl rfl (by decide +kernel) ⟨by decide, by decide⟩) (ti_preV hK hT2 hy2 rfl rfl) rfl rfl hl.1 rfl (lv_room (Nat.le_of_ble_eq_true rfl)) dL_law_1949 ⟨by decide, by decide⟩) hS (fun q h => hA2 q (pW_pA h)) (fun r2 H locs hB hS _ hk => ?_)
  obtain ⟨hT2, ir2⟩ := hB
  have hT1 := TI.frameW hT1 (fun q h1 h2 => hdis q h2 h1) hk
  refine lv_pop hx hb dL_law_1952 rfl ?_
  refine lv_goto (tgt := 2019) hx hb dL_law_1953 (by decide) ?_
  exact nxt ν2 H locs hT1 hT2 hν hS
set_option maxHeartbeats 8000000 in
set_option maxRecDepth 100000 in
theorem law_c54 {p : Program} {e : Env} {s : State} {m : MethodId} {below : List Frame} {meth : Method} {c : Code} (l : Launch) {b L : Nat} {xs : Nat → Int32} (hL : L ≤ 3072) (hx : p.tables.exec = Jvm.exec) (hb : c.code = code) (hr : meth.sig.returnType = ret) (hml : c.maxLocals = 4) (hown : s.vm.findClass RL = some m.cls) (hts : ∀ w ∈ wq, w.before #[Value.ref b] s = true) (hX : va_X b L xs s s.heap) (hbl : b < s.heap.size) (hlocks : meth.locks = false) {D : va_G} {c0 : Nat → ClassId} {Y1 Y2 : Nat → Option Nat} {o1 o2 : Nat} {adK adV : Nat → Nat} (hK : va_K D vwCl (tysOf c0) s) (hSO : SO (fun q : Nat => s.heap.size ≤ q) adK adV s s.heap) (hdis : ∀ q, pA Y1 q → pA Y2 q → False) (hU : uq Y2) (hy1 : Y1 o1 = some 9) (hA1 : ∀ q, pA Y1 q → s.heap.size ≤ q) (hy2 : Y2 o2 = some 10) (hA2 : ∀ q, pA Y2 q → s.heap.size ≤ q) {ν2 : Nat → Nat} {i : Int32} {H : Heap} {locs : List Loc} {ls : Array Slot} (hi : iv i 0 3066) (hiL : i.toInt + 6 ≤ (L : Int)) (hT1 : TI D vwCl (tysOf c0) (RTg (fun _ => 0)) Y1 H) (hT2 : TI D vwCl (tysOf c0) (RTg ν2) Y2 H) (hν : nuOK ν2) (hS : va_S (fun q : Nat => s.heap.size ≤ q) s.heap H locs) (hl : lv_has ls 4 [(3, .int i), (2, .ref o2), (1, .ref o1), (0, .ref b)]) (nxt : ∀ (ν2 : Nat → Nat) (H : Heap) (locs : List Loc), TI D vwCl (tysOf c0) (RTg (fun _ => 0)) Y1 H → TI D vwCl (tysOf c0) (RTg ν2) Y2 H → nuOK ν2 → va_S (fun q : Nat => s.heap.size ≤ q) s.heap H locs → W p l e room_1 s m #[Value.ref b] below meth c H locs 188 7230 (lw_Z below #[Value.ref b] s) (F0 m 2019 ls [])) : W p l e room_1 s m #[Value.ref b] below meth c H locs 188 7230 (lw_Z below #[Value.ref b] s) (F0 m 1956 ls []) := by
  have hbA : ¬ (fun q : Nat => s.heap.size ≤ q) b := Nat.not_le.mpr hbl
  refine lv_aload_n hx hb dL_law_1956 rfl (lv_at hl 2 rfl) ?_
  refine lv_aload_n hx hb dL_law_1957 rfl (lv_at hl 3 rfl) ?_
  refine lv_iload_n hx hb dL_law_1958 rfl (lv_at hl 0 rfl) ?_
  refine lv_iconst (v := 1) hx hb dL_law_1959 (by decide) ?_
  refine lv_iadd hx hb dL_law_1960 ?_
  refine va_sld (i := i + 1) hx hb hX hbl hbA hS (law_in hi hiL (d := 1) (by decide) (by decide) (by decide)) dL_law_1961 ?_
  refine lv_aload_n hx hb dL_law_1962 rfl (lv_at hl 3 rfl) ?_
  refine lv_iload_n hx hb dL_law_1963 rfl (lv_at hl 0 rfl) ?_
  refine lv_iconst (v := 2) hx hb dL_law_1964 (by decide) ?_
  refine lv_iadd hx hb dL_law_1965 ?_
  refine va_sld (i := i + 2) hx hb hX hbl hbA hS (law_in hi hiL (d := 2) (by decide) (by decide) (by decide)) dL_law_1966 ?_
  refine lv_aload_n hx hb dL_law_1967 rfl (lv_at hl 3 rfl) ?_
  refine lv_iload_n hx hb dL_law_1968 rfl (lv_at hl 0 rfl) ?_
  refine lv_iconst (v := 3) hx hb dL_law_1969 (by decide) ?_
  refine lv_iadd hx hb dL_law_1970 ?_
  refine va_sld (i := i + 3) hx hb hX hbl hbA hS (law_in hi hiL (d := 3) (by decide) (by decide) (by decide)) dL_law_1971 ?_
  refine lv_aload_n hx hb dL_law_1972 rfl (lv_at hl 3 rfl) ?_
  refine lv_iload_n hx hb dL_law_1973 rfl (lv_at hl 0 rfl) ?_
  refine lv_iconst (v := 4) hx hb dL_law_1974 (by decide) ?_
  refine lv_iadd hx hb dL_law_1975 ?_
  refine va_sld (i := i + 4) hx hb hX hbl hbA hS (law_in hi hiL (d := 4) (by decide) (by decide) (by decide)) dL_law_1976 ?_
  refine lv_aload_n hx hb dL_law_1977 rfl (lv_at hl 3 rfl) ?_
  refine lv_iload_n hx hb dL_law_1978 rfl (lv_at hl 0 rfl) ?_
  refine lv_iconst (v := 5) hx hb dL_law_1979 (by decide) ?_
  refine lv_iadd hx hb dL_law_1980 ?_
  refine va_sld (i := i + 5) hx hb hX hbl hbA hS (law_in hi hiL (d := 5) (by decide) (by decide) (by decide)) dL_law_1981 ?_
  refine ti_calli (va_runV (As := [.int (xs (i + 1).toNatClampNeg), .int (xs (i + 2).toNatClampNeg), .int (xs (i + 3).toNatClampNeg), .int (xs (i + 4).toNatClampNeg), .int (xs (i + 5).toNatClampNeg)]) (rest := []) ⟨hx, hb, hml, hown, hts⟩ (t_X9_paste l hT1 hy1 (iv_top _) (iv_top _) (iv_top _) (iv_top _) (iv_top _)) (cwV 5 hts (good_V kw_1562 kw_1563 kw_1564 kw_2 kw_1565) rfl rfl rfl (by decide +kernel) ⟨by decide, by decide⟩) (ti_preV hK hT1 hy1 rfl rfl) rfl rfl hl.1 rfl (lv_room (Nat.le_of_ble_eq_true rfl)) dL_law_1982 ⟨by decide, by decide⟩) hS (fun q h => hA1 q (pW_pA h)) (fun r1 H locs hB hS _ hk => ?_)
  obtain ⟨hT1, ir1⟩ := hB
  have hT2 := TI.frameW hT2 hdis hk
  refine lv_pop hx hb dL_law_1985 rfl ?_
  refine lv_aload_n hx hb dL_law_1986 rfl (lv_at hl 1 rfl) ?_
  refine lv_aload_n hx hb dL_law_1987 rfl (lv_at hl 3 rfl) ?_
  refine lv_iload_n hx hb dL_law_1988 rfl (lv_at hl 0 rfl) ?_
  refine lv_iconst (v := 1) hx hb dL_law_1989 (by decide) ?_
  refine lv_iadd hx hb dL_law_1990 ?_
  refine va_sld (i := i + 1) hx hb hX hbl hbA hS (law_in hi hiL (d := 1) (by decide) (by decide) (by decide)) dL_law_1991 ?_
  refine lv_aload_n hx hb dL_law_1992 rfl (lv_at hl 3 rfl) ?_
  refine lv_iload_n hx hb dL_law_1993 rfl (lv_at hl 0 rfl) ?_
  refine lv_iconst (v := 2) hx hb dL_law_1994 (by decide) ?_
  refine lv_iadd hx hb dL_law_1995 ?_
  refine va_sld (i := i + 2) hx hb hX hbl hbA hS (law_in hi hiL (d := 2) (by decide) (by decide) (by decide)) dL_law_1996 ?_
  refine lv_aload_n hx hb dL_law_1997 rfl (lv_at hl 3 rfl) ?_
  refine lv_iload_n hx hb dL_law_1998 rfl (lv_at hl 0 rfl) ?_
  refine lv_iconst (v := 3) hx hb dL_law_1999 (by decide) ?_
  refine lv_iadd hx hb dL_law_2000 ?_
  refine va_sld (i := i + 3) hx hb hX hbl hbA hS (law_in hi hiL (d := 3) (by decide) (by decide) (by decide)) dL_law_2001 ?_
  refine lv_aload_n hx hb dL_law_2002 rfl (lv_at hl 3 rfl) ?_
  refine lv_iload_n hx hb dL_law_2003 rfl (lv_at hl 0 rfl) ?_
  refine lv_iconst (v := 4) hx hb dL_law_2004 (by decide) ?_
  refine lv_iadd hx hb dL_law_2005 ?_
  refine va_sld (i := i + 4) hx hb hX hbl hbA hS (law_in hi hiL (d := 4) (by decide) (by decide) (by decide)) dL_law_2006 ?_
  refine lv_aload_n hx hb dL_law_2007 rfl (lv_at hl 3 rfl) ?_
  refine lv_iload_n hx hb dL_law_2008 rfl (lv_at hl 0 rfl) ?_
  refine lv_iconst (v := 5) hx hb dL_law_2009 (by decide) ?_
  refine lv_iadd hx hb dL_law_2010 ?_
  refine va_sld (i := i + 5) hx hb hX hbl hbA hS (law_in hi hiL (d := 5) (by decide) (by decide) (by decide)) dL_law_2011 ?_
  refine ti_calli (va_runV (As := [.int (xs (i + 1).toNatClampNeg), .int (xs (i + 2).toNatClampNeg), .int (xs (i + 3).toNatClampNeg), .int (xs (i + 4).toNatClampNeg), .int (xs (i + 5).toNatClampNeg)]) (rest := []) ⟨hx, hb, hml, hown, hts⟩ (t_X10_paste l hT2 hy2 (iv_top _) (iv_top _) (iv_top _) (iv_top _) (iv_top _) hν.2.2.2 hU) (cwV 5 hts (good_V kw_1572 kw_1573 kw_1574 kw_5 kw_1575) rfl rfl rfl (by decide +kernel) ⟨by decide, by decide⟩) (ti_preV hK hT2 hy2 rfl rfl) rfl rfl hl.1 rfl (lv_room (Nat.le_of_ble_eq_true rfl)) dL_law_2012 ⟨by decide, by decide⟩) hS (fun q h => hA2 q (pW_pA h)) (fun r2 H locs hB hS _ hk => ?_)
  obtain ⟨hT2, ir2⟩ := hB
  have hT1 := TI.frameW hT1 (fun q h1 h2 => hdis q h2 h1) hk
  refine lv_pop hx hb dL_law_2015 rfl ?_
  refine lv_goto (tgt := 2019) hx hb dL_law_2016 (by decide) ?_
  exact nxt ν2 H locs hT1 hT2 hν hS
