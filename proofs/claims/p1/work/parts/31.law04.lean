set_option maxHeartbeats 8000000 in
set_option maxRecDepth 100000 in
theorem law_c46 {p : Program} {e : Env} {s : State} {m : MethodId} {below : List Frame} {meth : Method} {c : Code} (l : Launch) {b L : Nat} {xs : Nat → Int32} (hL : L ≤ 6) (hx : p.tables.exec = Jvm.exec) (hb : c.code = code) (hr : meth.sig.returnType = ret) (hml : c.maxLocals = 4) (hown : s.vm.findClass RL = some m.cls) (hts : ∀ w ∈ wq, w.before #[Value.ref b] s = true) (hX : va_X b L xs s s.heap) (hbl : b < s.heap.size) (hlocks : meth.locks = false) (hL6 : L = 6) {D : va_G} {c0 : Nat → ClassId} {Y1 Y2 : Nat → Option Nat} {o1 o2 : Nat} {H : Heap} {locs : List Loc} {ls : Array Slot} (hK : va_K D vwCl (tysOf c0) s) (hN : nwA s) (hdis : ∀ q, pA Y1 q → pA Y2 q → False) (hT1 : TI D vwCl (tysOf c0) (RT1 false) Y1 H) (hy1 : Y1 o1 = some 9) (hA1 : ∀ q, pA Y1 q → s.heap.size ≤ q) (hT2 : TI D vwCl (tysOf c0) (RT1 false) Y2 H) (hy2 : Y2 o2 = some 10) (hA2 : ∀ q, pA Y2 q → s.heap.size ≤ q) (hS : va_S (fun q : Nat => s.heap.size ≤ q) s.heap H locs) (hl : lv_has ls 4 [(3, .int 0), (2, .ref o2), (1, .ref o1), (0, .ref b)]) : W p l e room_1 s m #[Value.ref b] below meth c H locs 188 7230 (lw_Z below #[Value.ref b] s) (F0 m 1682 ls []) := by
  have hbA : ¬ (fun q : Nat => s.heap.size ≤ q) b := Nat.not_le.mpr hbl
  have hin : ∀ {i : Int32} {k : Int}, iv i k k → (decide (0 ≤ k) && decide (k < 6)) = true → vp_in i L := fun h1 h2 => by rw [hL6]; exact iv_in h1 (by simpa using h2)
  refine lv_aload_n hx hb dL_law_1682 rfl (lv_at hl 2 rfl) ?_
  refine lv_aload_n hx hb dL_law_1683 rfl (lv_at hl 3 rfl) ?_
  refine lv_iload_n hx hb dL_law_1684 rfl (lv_at hl 0 rfl) ?_
  refine lv_iconst (v := 1) hx hb dL_law_1685 (by decide) ?_
  refine lv_iadd hx hb dL_law_1686 ?_
  refine lv_topi (fun w9 e9 => ?_)
  obtain rfl : w9 = 1 := e9.trans (by decide)
  refine va_sld hx hb hX hbl hbA hS (hin (iv_c (x := (1 : Int32)) (k := 1) (by decide)) (by decide)) dL_law_1687 ?_
  refine lv_aload_n hx hb dL_law_1688 rfl (lv_at hl 3 rfl) ?_
  refine lv_iload_n hx hb dL_law_1689 rfl (lv_at hl 0 rfl) ?_
  refine lv_iconst (v := 2) hx hb dL_law_1690 (by decide) ?_
  refine lv_iadd hx hb dL_law_1691 ?_
  refine lv_topi (fun w9 e9 => ?_)
  obtain rfl : w9 = 2 := e9.trans (by decide)
  refine va_sld hx hb hX hbl hbA hS (hin (iv_c (x := (2 : Int32)) (k := 2) (by decide)) (by decide)) dL_law_1692 ?_
  refine ti_calli (va_runV (As := [.int (xs (1 : Int32).toNatClampNeg), .int (xs (2 : Int32).toNatClampNeg)]) (rest := []) ⟨hx, hb, hml, hown, hts⟩ (t_X9_duel l hT1 hy1 (iv_top _) (iv_top _)) (cwV 2 hts (good_V kw_1456 kw_1457 kw_1458 kw_2 kw_1459) rfl rfl rfl (by decide +kernel) ⟨by decide, by decide⟩) (ti_preV hK hT1 hy1 rfl rfl) rfl rfl hl.1 rfl (lv_room (Nat.le_of_ble_eq_true rfl)) dL_law_1693 ⟨by decide, by decide⟩) hS (fun q h => hA1 q h) (fun r1 H1 locs hB hS _ hk => ?_)
  obtain ⟨_, ir1⟩ := hB
  have hT2 := TI.frame hT2 hdis hk
  generalize H1 = H at hT2 hS ⊢
  refine lv_aload_n hx hb dL_law_1696 rfl (lv_at hl 1 rfl) ?_
  refine lv_aload_n hx hb dL_law_1697 rfl (lv_at hl 3 rfl) ?_
  refine lv_iload_n hx hb dL_law_1698 rfl (lv_at hl 0 rfl) ?_
  refine lv_iconst (v := 1) hx hb dL_law_1699 (by decide) ?_
  refine lv_iadd hx hb dL_law_1700 ?_
  refine lv_topi (fun w9 e9 => ?_)
  obtain rfl : w9 = 1 := e9.trans (by decide)
  refine va_sld hx hb hX hbl hbA hS (hin (iv_c (x := (1 : Int32)) (k := 1) (by decide)) (by decide)) dL_law_1701 ?_
  refine lv_aload_n hx hb dL_law_1702 rfl (lv_at hl 3 rfl) ?_
  refine lv_iload_n hx hb dL_law_1703 rfl (lv_at hl 0 rfl) ?_
  refine lv_iconst (v := 2) hx hb dL_law_1704 (by decide) ?_
  refine lv_iadd hx hb dL_law_1705 ?_
  refine lv_topi (fun w9 e9 => ?_)
  obtain rfl : w9 = 2 := e9.trans (by decide)
  refine va_sld hx hb hX hbl hbA hS (hin (iv_c (x := (2 : Int32)) (k := 2) (by decide)) (by decide)) dL_law_1706 ?_
  refine ti_calli (va_runV (As := [.int (xs (1 : Int32).toNatClampNeg), .int (xs (2 : Int32).toNatClampNeg)]) (rest := [.int r1]) ⟨hx, hb, hml, hown, hts⟩ (t_X10_duel l hT2 hy2 (iv_top _) (iv_top _)) (cwV 2 hts (good_V kw_1472 kw_1473 kw_1474 kw_5 kw_1475) rfl rfl rfl (by decide +kernel) ⟨by decide, by decide⟩) (ti_preV hK hT2 hy2 rfl rfl) rfl rfl hl.1 rfl (lv_room (Nat.le_of_ble_eq_true rfl)) dL_law_1707 ⟨by decide, by decide⟩) hS (fun q h => hA2 q h) (fun r2 H1 locs hB hS _ hk => ?_)
  obtain ⟨_, ir2⟩ := hB
  generalize H1 = H at hS ⊢
  refine lv_icmp_eq (tgt := 2019) hx hb dL_law_1710 (by decide) (fun _ => ?_) (fun h => ?_)
  · exact law_nxt l hL hx hb hr hml hown hts hX hbl hlocks hL6 hS hl
  · exact absurd (Int32.toInt_inj.mp (by have := ir1.1; have := ir1.2; have := ir2.1; have := ir2.2; omega)) h
set_option maxHeartbeats 8000000 in
set_option maxRecDepth 100000 in
theorem law_c47 {p : Program} {e : Env} {s : State} {m : MethodId} {below : List Frame} {meth : Method} {c : Code} (l : Launch) {b L : Nat} {xs : Nat → Int32} (hL : L ≤ 6) (hx : p.tables.exec = Jvm.exec) (hb : c.code = code) (hr : meth.sig.returnType = ret) (hml : c.maxLocals = 4) (hown : s.vm.findClass RL = some m.cls) (hts : ∀ w ∈ wq, w.before #[Value.ref b] s = true) (hX : va_X b L xs s s.heap) (hbl : b < s.heap.size) (hlocks : meth.locks = false) (hL6 : L = 6) {D : va_G} {c0 : Nat → ClassId} {Y1 Y2 : Nat → Option Nat} {o1 o2 : Nat} {H : Heap} {locs : List Loc} {ls : Array Slot} (hK : va_K D vwCl (tysOf c0) s) (hN : nwA s) (hdis : ∀ q, pA Y1 q → pA Y2 q → False) (hT1 : TI D vwCl (tysOf c0) (RT1 false) Y1 H) (hy1 : Y1 o1 = some 9) (hA1 : ∀ q, pA Y1 q → s.heap.size ≤ q) (hT2 : TI D vwCl (tysOf c0) (RT1 false) Y2 H) (hy2 : Y2 o2 = some 10) (hA2 : ∀ q, pA Y2 q → s.heap.size ≤ q) (hS : va_S (fun q : Nat => s.heap.size ≤ q) s.heap H locs) (hl : lv_has ls 4 [(3, .int 0), (2, .ref o2), (1, .ref o1), (0, .ref b)]) : W p l e room_1 s m #[Value.ref b] below meth c H locs 188 7230 (lw_Z below #[Value.ref b] s) (F0 m 1715 ls []) := by
  have hbA : ¬ (fun q : Nat => s.heap.size ≤ q) b := Nat.not_le.mpr hbl
  have hin : ∀ {i : Int32} {k : Int}, iv i k k → (decide (0 ≤ k) && decide (k < 6)) = true → vp_in i L := fun h1 h2 => by rw [hL6]; exact iv_in h1 (by simpa using h2)
  refine lv_aload_n hx hb dL_law_1715 rfl (lv_at hl 2 rfl) ?_
  refine lv_aload_n hx hb dL_law_1716 rfl (lv_at hl 3 rfl) ?_
  refine lv_iload_n hx hb dL_law_1717 rfl (lv_at hl 0 rfl) ?_
  refine lv_iconst (v := 1) hx hb dL_law_1718 (by decide) ?_
  refine lv_iadd hx hb dL_law_1719 ?_
  refine lv_topi (fun w9 e9 => ?_)
  obtain rfl : w9 = 1 := e9.trans (by decide)
  refine va_sld hx hb hX hbl hbA hS (hin (iv_c (x := (1 : Int32)) (k := 1) (by decide)) (by decide)) dL_law_1720 ?_
  refine lv_aload_n hx hb dL_law_1721 rfl (lv_at hl 3 rfl) ?_
  refine lv_iload_n hx hb dL_law_1722 rfl (lv_at hl 0 rfl) ?_
  refine lv_iconst (v := 2) hx hb dL_law_1723 (by decide) ?_
  refine lv_iadd hx hb dL_law_1724 ?_
  refine lv_topi (fun w9 e9 => ?_)
  obtain rfl : w9 = 2 := e9.trans (by decide)
  refine va_sld hx hb hX hbl hbA hS (hin (iv_c (x := (2 : Int32)) (k := 2) (by decide)) (by decide)) dL_law_1725 ?_
  refine ti_calli (va_runV (As := [.int (xs (1 : Int32).toNatClampNeg), .int (xs (2 : Int32).toNatClampNeg)]) (rest := []) ⟨hx, hb, hml, hown, hts⟩ (t_X9_mixed l hT1 hy1 (iv_top _) (iv_top _)) (cwV 2 hts (good_V kw_1480 kw_1481 kw_1482 kw_2 kw_1483) rfl rfl rfl (by decide +kernel) ⟨by decide, by decide⟩) (ti_preV hK hT1 hy1 rfl rfl) rfl rfl hl.1 rfl (lv_room (Nat.le_of_ble_eq_true rfl)) dL_law_1726 ⟨by decide, by decide⟩) hS (fun q h => hA1 q h) (fun r1 H1 locs hB hS _ hk => ?_)
  obtain ⟨_, ir1⟩ := hB
  have hT2 := TI.frame hT2 hdis hk
  generalize H1 = H at hT2 hS ⊢
  refine lv_aload_n hx hb dL_law_1729 rfl (lv_at hl 1 rfl) ?_
  refine lv_aload_n hx hb dL_law_1730 rfl (lv_at hl 3 rfl) ?_
  refine lv_iload_n hx hb dL_law_1731 rfl (lv_at hl 0 rfl) ?_
  refine lv_iconst (v := 1) hx hb dL_law_1732 (by decide) ?_
  refine lv_iadd hx hb dL_law_1733 ?_
  refine lv_topi (fun w9 e9 => ?_)
  obtain rfl : w9 = 1 := e9.trans (by decide)
  refine va_sld hx hb hX hbl hbA hS (hin (iv_c (x := (1 : Int32)) (k := 1) (by decide)) (by decide)) dL_law_1734 ?_
  refine lv_aload_n hx hb dL_law_1735 rfl (lv_at hl 3 rfl) ?_
  refine lv_iload_n hx hb dL_law_1736 rfl (lv_at hl 0 rfl) ?_
  refine lv_iconst (v := 2) hx hb dL_law_1737 (by decide) ?_
  refine lv_iadd hx hb dL_law_1738 ?_
  refine lv_topi (fun w9 e9 => ?_)
  obtain rfl : w9 = 2 := e9.trans (by decide)
  refine va_sld hx hb hX hbl hbA hS (hin (iv_c (x := (2 : Int32)) (k := 2) (by decide)) (by decide)) dL_law_1739 ?_
  refine ti_calli (va_runV (As := [.int (xs (1 : Int32).toNatClampNeg), .int (xs (2 : Int32).toNatClampNeg)]) (rest := [.int r1]) ⟨hx, hb, hml, hown, hts⟩ (t_X10_mixed l hT2 hy2 (iv_top _) (iv_top _)) (cwV 2 hts (good_V kw_1484 kw_1485 kw_1486 kw_5 kw_1487) rfl rfl rfl (by decide +kernel) ⟨by decide, by decide⟩) (ti_preV hK hT2 hy2 rfl rfl) rfl rfl hl.1 rfl (lv_room (Nat.le_of_ble_eq_true rfl)) dL_law_1740 ⟨by decide, by decide⟩) hS (fun q h => hA2 q h) (fun r2 H1 locs hB hS _ hk => ?_)
  obtain ⟨_, ir2⟩ := hB
  generalize H1 = H at hS ⊢
  refine lv_icmp_eq (tgt := 2019) hx hb dL_law_1743 (by decide) (fun _ => ?_) (fun h => ?_)
  · exact law_nxt l hL hx hb hr hml hown hts hX hbl hlocks hL6 hS hl
  · exact absurd (Int32.toInt_inj.mp (by have := ir1.1; have := ir1.2; have := ir2.1; have := ir2.2; omega)) h
set_option maxHeartbeats 8000000 in
set_option maxRecDepth 100000 in
theorem law_c48 {p : Program} {e : Env} {s : State} {m : MethodId} {below : List Frame} {meth : Method} {c : Code} (l : Launch) {b L : Nat} {xs : Nat → Int32} (hL : L ≤ 6) (hx : p.tables.exec = Jvm.exec) (hb : c.code = code) (hr : meth.sig.returnType = ret) (hml : c.maxLocals = 4) (hown : s.vm.findClass RL = some m.cls) (hts : ∀ w ∈ wq, w.before #[Value.ref b] s = true) (hX : va_X b L xs s s.heap) (hbl : b < s.heap.size) (hlocks : meth.locks = false) (hL6 : L = 6) {D : va_G} {c0 : Nat → ClassId} {Y1 Y2 : Nat → Option Nat} {o1 o2 : Nat} {H : Heap} {locs : List Loc} {ls : Array Slot} (hK : va_K D vwCl (tysOf c0) s) (hN : nwA s) (hdis : ∀ q, pA Y1 q → pA Y2 q → False) (hT1 : TI D vwCl (tysOf c0) (RT1 false) Y1 H) (hy1 : Y1 o1 = some 9) (hA1 : ∀ q, pA Y1 q → s.heap.size ≤ q) (hT2 : TI D vwCl (tysOf c0) (RT1 false) Y2 H) (hy2 : Y2 o2 = some 10) (hA2 : ∀ q, pA Y2 q → s.heap.size ≤ q) (hS : va_S (fun q : Nat => s.heap.size ≤ q) s.heap H locs) (hl : lv_has ls 4 [(3, .int 0), (2, .ref o2), (1, .ref o1), (0, .ref b)]) : W p l e room_1 s m #[Value.ref b] below meth c H locs 188 7230 (lw_Z below #[Value.ref b] s) (F0 m 1748 ls []) := by
  have hbA : ¬ (fun q : Nat => s.heap.size ≤ q) b := Nat.not_le.mpr hbl
  have hin : ∀ {i : Int32} {k : Int}, iv i k k → (decide (0 ≤ k) && decide (k < 6)) = true → vp_in i L := fun h1 h2 => by rw [hL6]; exact iv_in h1 (by simpa using h2)
  refine lv_aload_n hx hb dL_law_1748 rfl (lv_at hl 2 rfl) ?_
  refine lv_aload_n hx hb dL_law_1749 rfl (lv_at hl 3 rfl) ?_
  refine lv_iload_n hx hb dL_law_1750 rfl (lv_at hl 0 rfl) ?_
  refine lv_iconst (v := 1) hx hb dL_law_1751 (by decide) ?_
  refine lv_iadd hx hb dL_law_1752 ?_
  refine lv_topi (fun w9 e9 => ?_)
  obtain rfl : w9 = 1 := e9.trans (by decide)
  refine va_sld hx hb hX hbl hbA hS (hin (iv_c (x := (1 : Int32)) (k := 1) (by decide)) (by decide)) dL_law_1753 ?_
  refine ti_calli (va_runV (As := [.int (xs (1 : Int32).toNatClampNeg)]) (rest := []) ⟨hx, hb, hml, hown, hts⟩ (t_X9_seed l hT1 hy1 (iv_top _)) (cwV 1 hts (good_V kw_1489 kw_1490 kw_1491 kw_2 kw_1492) rfl rfl rfl (by decide +kernel) ⟨by decide, by decide⟩) (ti_preV hK hT1 hy1 rfl rfl) rfl rfl hl.1 rfl (lv_room (Nat.le_of_ble_eq_true rfl)) dL_law_1754 ⟨by decide, by decide⟩) hS (fun q h => hA1 q h) (fun r1 H1 locs hB hS _ hk => ?_)
  obtain ⟨_, pr1⟩ := hB
  have hT2 := TI.frame hT2 hdis hk
  generalize H1 = H at hT2 hS ⊢
  refine lv_aload_n hx hb dL_law_1757 rfl (lv_at hl 1 rfl) ?_
  refine lv_aload_n hx hb dL_law_1758 rfl (lv_at hl 3 rfl) ?_
  refine lv_iload_n hx hb dL_law_1759 rfl (lv_at hl 0 rfl) ?_
  refine lv_iconst (v := 1) hx hb dL_law_1760 (by decide) ?_
  refine lv_iadd hx hb dL_law_1761 ?_
  refine lv_topi (fun w9 e9 => ?_)
  obtain rfl : w9 = 1 := e9.trans (by decide)
  refine va_sld hx hb hX hbl hbA hS (hin (iv_c (x := (1 : Int32)) (k := 1) (by decide)) (by decide)) dL_law_1762 ?_
  refine ti_calli (va_runV (As := [.int (xs (1 : Int32).toNatClampNeg)]) (rest := [.int r1]) ⟨hx, hb, hml, hown, hts⟩ (t_X10_seed l hT2 hy2 (iv_top _)) (cwV 1 hts (good_V kw_1495 kw_1496 kw_1497 kw_5 kw_1498) rfl rfl rfl (by decide +kernel) ⟨by decide, by decide⟩) (ti_preV hK hT2 hy2 rfl rfl) rfl rfl hl.1 rfl (lv_room (Nat.le_of_ble_eq_true rfl)) dL_law_1763 ⟨by decide, by decide⟩) hS (fun q h => hA2 q h) (fun r2 H1 locs hB hS _ hk => ?_)
  obtain ⟨_, pr2⟩ := hB
  generalize H1 = H at hS ⊢
  refine lv_icmp_eq (tgt := 2019) hx hb dL_law_1766 (by decide) (fun _ => ?_) (fun h => ?_)
  · exact law_nxt l hL hx hb hr hml hown hts hX hbl hlocks hL6 hS hl
  · exact absurd (Int32.toInt_inj.mp (by omega)) h
set_option maxHeartbeats 8000000 in
set_option maxRecDepth 100000 in
theorem law_c49 {p : Program} {e : Env} {s : State} {m : MethodId} {below : List Frame} {meth : Method} {c : Code} (l : Launch) {b L : Nat} {xs : Nat → Int32} (hL : L ≤ 6) (hx : p.tables.exec = Jvm.exec) (hb : c.code = code) (hr : meth.sig.returnType = ret) (hml : c.maxLocals = 4) (hown : s.vm.findClass RL = some m.cls) (hts : ∀ w ∈ wq, w.before #[Value.ref b] s = true) (hX : va_X b L xs s s.heap) (hbl : b < s.heap.size) (hlocks : meth.locks = false) (hL6 : L = 6) {D : va_G} {c0 : Nat → ClassId} {Y1 Y2 : Nat → Option Nat} {o1 o2 : Nat} {H : Heap} {locs : List Loc} {ls : Array Slot} (hK : va_K D vwCl (tysOf c0) s) (hN : nwA s) (hdis : ∀ q, pA Y1 q → pA Y2 q → False) (hT1 : TI D vwCl (tysOf c0) (RT1 false) Y1 H) (hy1 : Y1 o1 = some 9) (hA1 : ∀ q, pA Y1 q → s.heap.size ≤ q) (hT2 : TI D vwCl (tysOf c0) (RT1 false) Y2 H) (hy2 : Y2 o2 = some 10) (hA2 : ∀ q, pA Y2 q → s.heap.size ≤ q) (hS : va_S (fun q : Nat => s.heap.size ≤ q) s.heap H locs) (hl : lv_has ls 4 [(3, .int 0), (2, .ref o2), (1, .ref o1), (0, .ref b)]) : W p l e room_1 s m #[Value.ref b] below meth c H locs 188 7230 (lw_Z below #[Value.ref b] s) (F0 m 1771 ls []) := by
  have hbA : ¬ (fun q : Nat => s.heap.size ≤ q) b := Nat.not_le.mpr hbl
  have hin : ∀ {i : Int32} {k : Int}, iv i k k → (decide (0 ≤ k) && decide (k < 6)) = true → vp_in i L := fun h1 h2 => by rw [hL6]; exact iv_in h1 (by simpa using h2)
  refine lv_aload_n hx hb dL_law_1771 rfl (lv_at hl 2 rfl) ?_
  refine lv_aload_n hx hb dL_law_1772 rfl (lv_at hl 3 rfl) ?_
  refine lv_iload_n hx hb dL_law_1773 rfl (lv_at hl 0 rfl) ?_
  refine lv_iconst (v := 1) hx hb dL_law_1774 (by decide) ?_
  refine lv_iadd hx hb dL_law_1775 ?_
  refine lv_topi (fun w9 e9 => ?_)
  obtain rfl : w9 = 1 := e9.trans (by decide)
  refine va_sld hx hb hX hbl hbA hS (hin (iv_c (x := (1 : Int32)) (k := 1) (by decide)) (by decide)) dL_law_1776 ?_
  refine ti_calli (va_runV (As := [.int (xs (1 : Int32).toNatClampNeg)]) (rest := []) ⟨hx, hb, hml, hown, hts⟩ (t_X9_count l hT1 hy1 (iv_top _)) (cwV 1 hts (good_V kw_1500 kw_1501 kw_1502 kw_2 kw_1503) rfl rfl rfl (by decide +kernel) ⟨by decide, by decide⟩) (ti_preV hK hT1 hy1 rfl rfl) rfl rfl hl.1 rfl (lv_room (Nat.le_of_ble_eq_true rfl)) dL_law_1777 ⟨by decide, by decide⟩) hS (fun q h => hA1 q h) (fun r1 H1 locs hB hS _ hk => ?_)
  obtain ⟨_, pr1⟩ := hB
  have hT2 := TI.frame hT2 hdis hk
  generalize H1 = H at hT2 hS ⊢
  refine lv_aload_n hx hb dL_law_1780 rfl (lv_at hl 1 rfl) ?_
  refine lv_aload_n hx hb dL_law_1781 rfl (lv_at hl 3 rfl) ?_
  refine lv_iload_n hx hb dL_law_1782 rfl (lv_at hl 0 rfl) ?_
  refine lv_iconst (v := 1) hx hb dL_law_1783 (by decide) ?_
  refine lv_iadd hx hb dL_law_1784 ?_
  refine lv_topi (fun w9 e9 => ?_)
  obtain rfl : w9 = 1 := e9.trans (by decide)
  refine va_sld hx hb hX hbl hbA hS (hin (iv_c (x := (1 : Int32)) (k := 1) (by decide)) (by decide)) dL_law_1785 ?_
  refine ti_calli (va_runV (As := [.int (xs (1 : Int32).toNatClampNeg)]) (rest := [.int r1]) ⟨hx, hb, hml, hown, hts⟩ (t_X10_count l hT2 hy2 (iv_top _)) (cwV 1 hts (good_V kw_1509 kw_1510 kw_1511 kw_5 kw_1512) rfl rfl rfl (by decide +kernel) ⟨by decide, by decide⟩) (ti_preV hK hT2 hy2 rfl rfl) rfl rfl hl.1 rfl (lv_room (Nat.le_of_ble_eq_true rfl)) dL_law_1786 ⟨by decide, by decide⟩) hS (fun q h => hA2 q h) (fun r2 H1 locs hB hS _ hk => ?_)
  obtain ⟨_, pr2⟩ := hB
  generalize H1 = H at hS ⊢
  refine lv_icmp_eq (tgt := 2019) hx hb dL_law_1789 (by decide) (fun _ => ?_) (fun h => ?_)
  · exact law_nxt l hL hx hb hr hml hown hts hX hbl hlocks hL6 hS hl
  · exact absurd (Int32.toInt_inj.mp (by omega)) h
set_option maxHeartbeats 8000000 in
set_option maxRecDepth 100000 in
theorem law_c50 {p : Program} {e : Env} {s : State} {m : MethodId} {below : List Frame} {meth : Method} {c : Code} (l : Launch) {b L : Nat} {xs : Nat → Int32} (hL : L ≤ 6) (hx : p.tables.exec = Jvm.exec) (hb : c.code = code) (hr : meth.sig.returnType = ret) (hml : c.maxLocals = 4) (hown : s.vm.findClass RL = some m.cls) (hts : ∀ w ∈ wq, w.before #[Value.ref b] s = true) (hX : va_X b L xs s s.heap) (hbl : b < s.heap.size) (hlocks : meth.locks = false) (hL6 : L = 6) {D : va_G} {c0 : Nat → ClassId} {Y1 Y2 : Nat → Option Nat} {o1 o2 : Nat} {H : Heap} {locs : List Loc} {ls : Array Slot} (hK : va_K D vwCl (tysOf c0) s) (hN : nwA s) (hdis : ∀ q, pA Y1 q → pA Y2 q → False) (hT1 : TI D vwCl (tysOf c0) (RT1 false) Y1 H) (hy1 : Y1 o1 = some 9) (hA1 : ∀ q, pA Y1 q → s.heap.size ≤ q) (hT2 : TI D vwCl (tysOf c0) (RT1 false) Y2 H) (hy2 : Y2 o2 = some 10) (hA2 : ∀ q, pA Y2 q → s.heap.size ≤ q) (hS : va_S (fun q : Nat => s.heap.size ≤ q) s.heap H locs) (hl : lv_has ls 4 [(3, .int 0), (2, .ref o2), (1, .ref o1), (0, .ref b)]) : W p l e room_1 s m #[Value.ref b] below meth c H locs 188 7230 (lw_Z below #[Value.ref b] s) (F0 m 1794 ls []) := by
  have hbA : ¬ (fun q : Nat => s.heap.size ≤ q) b := Nat.not_le.mpr hbl
  have hin : ∀ {i : Int32} {k : Int}, iv i k k → (decide (0 ≤ k) && decide (k < 6)) = true → vp_in i L := fun h1 h2 => by rw [hL6]; exact iv_in h1 (by simpa using h2)
  refine lv_aload_n hx hb dL_law_1794 rfl (lv_at hl 2 rfl) ?_
  refine lv_aload_n hx hb dL_law_1795 rfl (lv_at hl 3 rfl) ?_
  refine lv_iload_n hx hb dL_law_1796 rfl (lv_at hl 0 rfl) ?_
  refine lv_iconst (v := 1) hx hb dL_law_1797 (by decide) ?_
  refine lv_iadd hx hb dL_law_1798 ?_
  refine lv_topi (fun w9 e9 => ?_)
  obtain rfl : w9 = 1 := e9.trans (by decide)
  refine va_sld hx hb hX hbl hbA hS (hin (iv_c (x := (1 : Int32)) (k := 1) (by decide)) (by decide)) dL_law_1799 ?_
  refine ti_calli (va_runV (As := [.int (xs (1 : Int32).toNatClampNeg)]) (rest := []) ⟨hx, hb, hml, hown, hts⟩ (t_X9_keep l (RT1_weak hT1) hy1 (iv_top _)) (cwV 1 hts (good_V kw_1513 kw_1514 kw_1515 kw_2 kw_1516) rfl rfl rfl (by decide +kernel) ⟨by decide, by decide⟩) (ti_preV hK hT1 hy1 rfl rfl) rfl rfl hl.1 rfl (lv_room (Nat.le_of_ble_eq_true rfl)) dL_law_1800 ⟨by decide, by decide⟩) hS (fun q h => hA1 q h) (fun r1 H1 locs hB hS _ hk => ?_)
  obtain ⟨_, pr1⟩ := hB
  have hT2 := TI.frame hT2 hdis hk
  generalize H1 = H at hT2 hS ⊢
  refine lv_aload_n hx hb dL_law_1803 rfl (lv_at hl 1 rfl) ?_
  refine lv_aload_n hx hb dL_law_1804 rfl (lv_at hl 3 rfl) ?_
  refine lv_iload_n hx hb dL_law_1805 rfl (lv_at hl 0 rfl) ?_
  refine lv_iconst (v := 1) hx hb dL_law_1806 (by decide) ?_
  refine lv_iadd hx hb dL_law_1807 ?_
  refine lv_topi (fun w9 e9 => ?_)
  obtain rfl : w9 = 1 := e9.trans (by decide)
  refine va_sld hx hb hX hbl hbA hS (hin (iv_c (x := (1 : Int32)) (k := 1) (by decide)) (by decide)) dL_law_1808 ?_
  refine ti_calli (va_runV (As := [.int (xs (1 : Int32).toNatClampNeg)]) (rest := [.int r1]) ⟨hx, hb, hml, hown, hts⟩ (t_X10_keep l (RT1_weak hT2) hy2 (iv_top _)) (cwV 1 hts (good_V kw_1517 kw_1518 kw_1519 kw_5 kw_1520) rfl rfl rfl (by decide +kernel) ⟨by decide, by decide⟩) (ti_preV hK hT2 hy2 rfl rfl) rfl rfl hl.1 rfl (lv_room (Nat.le_of_ble_eq_true rfl)) dL_law_1809 ⟨by decide, by decide⟩) hS (fun q h => hA2 q h) (fun r2 H1 locs hB hS _ hk => ?_)
  obtain ⟨_, pr2⟩ := hB
  generalize H1 = H at hS ⊢
  refine lv_icmp_eq (tgt := 2019) hx hb dL_law_1812 (by decide) (fun _ => ?_) (fun h => ?_)
  · exact law_nxt l hL hx hb hr hml hown hts hX hbl hlocks hL6 hS hl
  · exact absurd (Int32.toInt_inj.mp (by omega)) h
set_option maxHeartbeats 8000000 in
set_option maxRecDepth 100000 in
theorem law_c51 {p : Program} {e : Env} {s : State} {m : MethodId} {below : List Frame} {meth : Method} {c : Code} (l : Launch) {b L : Nat} {xs : Nat → Int32} (hL : L ≤ 6) (hx : p.tables.exec = Jvm.exec) (hb : c.code = code) (hr : meth.sig.returnType = ret) (hml : c.maxLocals = 4) (hown : s.vm.findClass RL = some m.cls) (hts : ∀ w ∈ wq, w.before #[Value.ref b] s = true) (hX : va_X b L xs s s.heap) (hbl : b < s.heap.size) (hlocks : meth.locks = false) (hL6 : L = 6) {D : va_G} {c0 : Nat → ClassId} {Y1 Y2 : Nat → Option Nat} {o1 o2 : Nat} {H : Heap} {locs : List Loc} {ls : Array Slot} (hK : va_K D vwCl (tysOf c0) s) (hN : nwA s) (hdis : ∀ q, pA Y1 q → pA Y2 q → False) (hT1 : TI D vwCl (tysOf c0) (RT1 false) Y1 H) (hy1 : Y1 o1 = some 9) (hA1 : ∀ q, pA Y1 q → s.heap.size ≤ q) (hT2 : TI D vwCl (tysOf c0) (RT1 false) Y2 H) (hy2 : Y2 o2 = some 10) (hA2 : ∀ q, pA Y2 q → s.heap.size ≤ q) (hS : va_S (fun q : Nat => s.heap.size ≤ q) s.heap H locs) (hl : lv_has ls 4 [(3, .int 0), (2, .ref o2), (1, .ref o1), (0, .ref b)]) : W p l e room_1 s m #[Value.ref b] below meth c H locs 188 7230 (lw_Z below #[Value.ref b] s) (F0 m 1817 ls []) := by
  have hbA : ¬ (fun q : Nat => s.heap.size ≤ q) b := Nat.not_le.mpr hbl
  have hin : ∀ {i : Int32} {k : Int}, iv i k k → (decide (0 ≤ k) && decide (k < 6)) = true → vp_in i L := fun h1 h2 => by rw [hL6]; exact iv_in h1 (by simpa using h2)
  refine lv_aload_n hx hb dL_law_1817 rfl (lv_at hl 2 rfl) ?_
  refine lv_aload_n hx hb dL_law_1818 rfl (lv_at hl 3 rfl) ?_
  refine lv_iload_n hx hb dL_law_1819 rfl (lv_at hl 0 rfl) ?_
  refine lv_iconst (v := 1) hx hb dL_law_1820 (by decide) ?_
  refine lv_iadd hx hb dL_law_1821 ?_
  refine lv_topi (fun w9 e9 => ?_)
  obtain rfl : w9 = 1 := e9.trans (by decide)
  refine va_sld hx hb hX hbl hbA hS (hin (iv_c (x := (1 : Int32)) (k := 1) (by decide)) (by decide)) dL_law_1822 ?_
  refine ti_calli (va_runV (As := [.int (xs (1 : Int32).toNatClampNeg)]) (rest := []) ⟨hx, hb, hml, hown, hts⟩ (t_X9_back l hT1 hy1 (iv_top _)) (cwV 1 hts (good_V kw_1521 kw_1522 kw_1523 kw_2 kw_1524) rfl rfl rfl (by decide +kernel) ⟨by decide, by decide⟩) (ti_preV hK hT1 hy1 rfl rfl) rfl rfl hl.1 rfl (lv_room (Nat.le_of_ble_eq_true rfl)) dL_law_1823 ⟨by decide, by decide⟩) hS (fun q h => hA1 q h) (fun r1 H1 locs hB hS _ hk => ?_)
  obtain ⟨_, pr1⟩ := hB
  have hT2 := TI.frame hT2 hdis hk
  generalize H1 = H at hT2 hS ⊢
  refine lv_aload_n hx hb dL_law_1826 rfl (lv_at hl 1 rfl) ?_
  refine lv_aload_n hx hb dL_law_1827 rfl (lv_at hl 3 rfl) ?_
  refine lv_iload_n hx hb dL_law_1828 rfl (lv_at hl 0 rfl) ?_
  refine lv_iconst (v := 1) hx hb dL_law_1829 (by decide) ?_
  refine lv_iadd hx hb dL_law_1830 ?_
  refine lv_topi (fun w9 e9 => ?_)
  obtain rfl : w9 = 1 := e9.trans (by decide)
  refine va_sld hx hb hX hbl hbA hS (hin (iv_c (x := (1 : Int32)) (k := 1) (by decide)) (by decide)) dL_law_1831 ?_
  refine ti_calli (va_runV (As := [.int (xs (1 : Int32).toNatClampNeg)]) (rest := [.int r1]) ⟨hx, hb, hml, hown, hts⟩ (t_X10_back l hT2 hy2 (iv_top _)) (cwV 1 hts (good_V kw_1525 kw_1526 kw_1527 kw_5 kw_1528) rfl rfl rfl (by decide +kernel) ⟨by decide, by decide⟩) (ti_preV hK hT2 hy2 rfl rfl) rfl rfl hl.1 rfl (lv_room (Nat.le_of_ble_eq_true rfl)) dL_law_1832 ⟨by decide, by decide⟩) hS (fun q h => hA2 q h) (fun r2 H1 locs hB hS _ hk => ?_)
  obtain ⟨_, pr2⟩ := hB
  generalize H1 = H at hS ⊢
  refine lv_icmp_eq (tgt := 2019) hx hb dL_law_1835 (by decide) (fun _ => ?_) (fun h => ?_)
  · exact law_nxt l hL hx hb hr hml hown hts hX hbl hlocks hL6 hS hl
  · exact absurd (Int32.toInt_inj.mp (by omega)) h
set_option maxHeartbeats 8000000 in
set_option maxRecDepth 100000 in
theorem law_c52 {p : Program} {e : Env} {s : State} {m : MethodId} {below : List Frame} {meth : Method} {c : Code} (l : Launch) {b L : Nat} {xs : Nat → Int32} (hL : L ≤ 6) (hx : p.tables.exec = Jvm.exec) (hb : c.code = code) (hr : meth.sig.returnType = ret) (hml : c.maxLocals = 4) (hown : s.vm.findClass RL = some m.cls) (hts : ∀ w ∈ wq, w.before #[Value.ref b] s = true) (hX : va_X b L xs s s.heap) (hbl : b < s.heap.size) (hlocks : meth.locks = false) (hL6 : L = 6) {D : va_G} {c0 : Nat → ClassId} {Y1 Y2 : Nat → Option Nat} {o1 o2 : Nat} {H : Heap} {locs : List Loc} {ls : Array Slot} (hK : va_K D vwCl (tysOf c0) s) (hN : nwA s) (hdis : ∀ q, pA Y1 q → pA Y2 q → False) (hT1 : TI D vwCl (tysOf c0) (RT1 false) Y1 H) (hy1 : Y1 o1 = some 9) (hA1 : ∀ q, pA Y1 q → s.heap.size ≤ q) (hT2 : TI D vwCl (tysOf c0) (RT1 false) Y2 H) (hy2 : Y2 o2 = some 10) (hA2 : ∀ q, pA Y2 q → s.heap.size ≤ q) (hS : va_S (fun q : Nat => s.heap.size ≤ q) s.heap H locs) (hl : lv_has ls 4 [(3, .int 0), (2, .ref o2), (1, .ref o1), (0, .ref b)]) : W p l e room_1 s m #[Value.ref b] below meth c H locs 188 7230 (lw_Z below #[Value.ref b] s) (F0 m 1840 ls []) := by
  have hbA : ¬ (fun q : Nat => s.heap.size ≤ q) b := Nat.not_le.mpr hbl
  have hin : ∀ {i : Int32} {k : Int}, iv i k k → (decide (0 ≤ k) && decide (k < 6)) = true → vp_in i L := fun h1 h2 => by rw [hL6]; exact iv_in h1 (by simpa using h2)
  refine lv_aload_n hx hb dL_law_1840 rfl (lv_at hl 2 rfl) ?_
  refine lv_aload_n hx hb dL_law_1841 rfl (lv_at hl 3 rfl) ?_
  refine lv_iload_n hx hb dL_law_1842 rfl (lv_at hl 0 rfl) ?_
  refine lv_iconst (v := 1) hx hb dL_law_1843 (by decide) ?_
  refine lv_iadd hx hb dL_law_1844 ?_
  refine lv_topi (fun w9 e9 => ?_)
  obtain rfl : w9 = 1 := e9.trans (by decide)
  refine va_sld hx hb hX hbl hbA hS (hin (iv_c (x := (1 : Int32)) (k := 1) (by decide)) (by decide)) dL_law_1845 ?_
  refine lv_aload_n hx hb dL_law_1846 rfl (lv_at hl 3 rfl) ?_
  refine lv_iload_n hx hb dL_law_1847 rfl (lv_at hl 0 rfl) ?_
  refine lv_iconst (v := 2) hx hb dL_law_1848 (by decide) ?_
  refine lv_iadd hx hb dL_law_1849 ?_
  refine lv_topi (fun w9 e9 => ?_)
  obtain rfl : w9 = 2 := e9.trans (by decide)
  refine va_sld hx hb hX hbl hbA hS (hin (iv_c (x := (2 : Int32)) (k := 2) (by decide)) (by decide)) dL_law_1850 ?_
  refine lv_aload_n hx hb dL_law_1851 rfl (lv_at hl 3 rfl) ?_
  refine lv_iload_n hx hb dL_law_1852 rfl (lv_at hl 0 rfl) ?_
  refine lv_iconst (v := 3) hx hb dL_law_1853 (by decide) ?_
  refine lv_iadd hx hb dL_law_1854 ?_
  refine lv_topi (fun w9 e9 => ?_)
  obtain rfl : w9 = 3 := e9.trans (by decide)
  refine va_sld hx hb hX hbl hbA hS (hin (iv_c (x := (3 : Int32)) (k := 3) (by decide)) (by decide)) dL_law_1855 ?_
  refine ti_calli (va_runV (As := [.int (xs (1 : Int32).toNatClampNeg), .int (xs (2 : Int32).toNatClampNeg), .int (xs (3 : Int32).toNatClampNeg)]) (rest := []) ⟨hx, hb, hml, hown, hts⟩ (t_X9_row l (RT1_weak hT1) hy1 (iv_top _) (iv_top _) (iv_top _)) (cwV 3 hts (good_V kw_1529 kw_1530 kw_1531 kw_2 kw_1532) rfl rfl rfl (by decide +kernel) ⟨by decide, by decide⟩) (ti_preV hK hT1 hy1 rfl rfl) rfl rfl hl.1 rfl (lv_room (Nat.le_of_ble_eq_true rfl)) dL_law_1856 ⟨by decide, by decide⟩) hS (fun q h => hA1 q h) (fun r1 H1 locs hB hS _ hk => ?_)
  obtain ⟨_, pr1⟩ := hB
  have hT2 := TI.frame hT2 hdis hk
  generalize H1 = H at hT2 hS ⊢
  refine lv_aload_n hx hb dL_law_1859 rfl (lv_at hl 1 rfl) ?_
  refine lv_aload_n hx hb dL_law_1860 rfl (lv_at hl 3 rfl) ?_
  refine lv_iload_n hx hb dL_law_1861 rfl (lv_at hl 0 rfl) ?_
  refine lv_iconst (v := 1) hx hb dL_law_1862 (by decide) ?_
  refine lv_iadd hx hb dL_law_1863 ?_
  refine lv_topi (fun w9 e9 => ?_)
  obtain rfl : w9 = 1 := e9.trans (by decide)
  refine va_sld hx hb hX hbl hbA hS (hin (iv_c (x := (1 : Int32)) (k := 1) (by decide)) (by decide)) dL_law_1864 ?_
  refine lv_aload_n hx hb dL_law_1865 rfl (lv_at hl 3 rfl) ?_
  refine lv_iload_n hx hb dL_law_1866 rfl (lv_at hl 0 rfl) ?_
  refine lv_iconst (v := 2) hx hb dL_law_1867 (by decide) ?_
  refine lv_iadd hx hb dL_law_1868 ?_
  refine lv_topi (fun w9 e9 => ?_)
  obtain rfl : w9 = 2 := e9.trans (by decide)
  refine va_sld hx hb hX hbl hbA hS (hin (iv_c (x := (2 : Int32)) (k := 2) (by decide)) (by decide)) dL_law_1869 ?_
  refine lv_aload_n hx hb dL_law_1870 rfl (lv_at hl 3 rfl) ?_
  refine lv_iload_n hx hb dL_law_1871 rfl (lv_at hl 0 rfl) ?_
  refine lv_iconst (v := 3) hx hb dL_law_1872 (by decide) ?_
  refine lv_iadd hx hb dL_law_1873 ?_
  refine lv_topi (fun w9 e9 => ?_)
  obtain rfl : w9 = 3 := e9.trans (by decide)
  refine va_sld hx hb hX hbl hbA hS (hin (iv_c (x := (3 : Int32)) (k := 3) (by decide)) (by decide)) dL_law_1874 ?_
  refine ti_calli (va_runV (As := [.int (xs (1 : Int32).toNatClampNeg), .int (xs (2 : Int32).toNatClampNeg), .int (xs (3 : Int32).toNatClampNeg)]) (rest := [.int r1]) ⟨hx, hb, hml, hown, hts⟩ (t_X10_row l (RT1_weak hT2) hy2 (iv_top _) (iv_top _) (iv_top _)) (cwV 3 hts (good_V kw_1543 kw_1544 kw_1545 kw_5 kw_1546) rfl rfl rfl (by decide +kernel) ⟨by decide, by decide⟩) (ti_preV hK hT2 hy2 rfl rfl) rfl rfl hl.1 rfl (lv_room (Nat.le_of_ble_eq_true rfl)) dL_law_1875 ⟨by decide, by decide⟩) hS (fun q h => hA2 q h) (fun r2 H1 locs hB hS _ hk => ?_)
  obtain ⟨_, pr2⟩ := hB
  generalize H1 = H at hS ⊢
  refine lv_icmp_eq (tgt := 2019) hx hb dL_law_1878 (by decide) (fun _ => ?_) (fun h => ?_)
  · exact law_nxt l hL hx hb hr hml hown hts hX hbl hlocks hL6 hS hl
  · exact absurd (Int32.toInt_inj.mp (by omega)) h
set_option maxHeartbeats 8000000 in
set_option maxRecDepth 100000 in
theorem law_c53 {p : Program} {e : Env} {s : State} {m : MethodId} {below : List Frame} {meth : Method} {c : Code} (l : Launch) {b L : Nat} {xs : Nat → Int32} (hL : L ≤ 6) (hx : p.tables.exec = Jvm.exec) (hb : c.code = code) (hr : meth.sig.returnType = ret) (hml : c.maxLocals = 4) (hown : s.vm.findClass RL = some m.cls) (hts : ∀ w ∈ wq, w.before #[Value.ref b] s = true) (hX : va_X b L xs s s.heap) (hbl : b < s.heap.size) (hlocks : meth.locks = false) (hL6 : L = 6) {D : va_G} {c0 : Nat → ClassId} {Y1 Y2 : Nat → Option Nat} {o1 o2 : Nat} {H : Heap} {locs : List Loc} {ls : Array Slot} (hK : va_K D vwCl (tysOf c0) s) (hN : nwA s) (hdis : ∀ q, pA Y1 q → pA Y2 q → False) (hT1 : TI D vwCl (tysOf c0) (RT1 false) Y1 H) (hy1 : Y1 o1 = some 9) (hA1 : ∀ q, pA Y1 q → s.heap.size ≤ q) (hT2 : TI D vwCl (tysOf c0) (RT1 false) Y2 H) (hy2 : Y2 o2 = some 10) (hA2 : ∀ q, pA Y2 q → s.heap.size ≤ q) (hS : va_S (fun q : Nat => s.heap.size ≤ q) s.heap H locs) (hl : lv_has ls 4 [(3, .int 0), (2, .ref o2), (1, .ref o1), (0, .ref b)]) : W p l e room_1 s m #[Value.ref b] below meth c H locs 188 7230 (lw_Z below #[Value.ref b] s) (F0 m 1883 ls []) := by
  have hbA : ¬ (fun q : Nat => s.heap.size ≤ q) b := Nat.not_le.mpr hbl
  have hin : ∀ {i : Int32} {k : Int}, iv i k k → (decide (0 ≤ k) && decide (k < 6)) = true → vp_in i L := fun h1 h2 => by rw [hL6]; exact iv_in h1 (by simpa using h2)
  refine lv_aload_n hx hb dL_law_1883 rfl (lv_at hl 2 rfl) ?_
  refine lv_aload_n hx hb dL_law_1884 rfl (lv_at hl 3 rfl) ?_
  refine lv_iload_n hx hb dL_law_1885 rfl (lv_at hl 0 rfl) ?_
  refine lv_iconst (v := 1) hx hb dL_law_1886 (by decide) ?_
  refine lv_iadd hx hb dL_law_1887 ?_
  refine lv_topi (fun w9 e9 => ?_)
  obtain rfl : w9 = 1 := e9.trans (by decide)
  refine va_sld hx hb hX hbl hbA hS (hin (iv_c (x := (1 : Int32)) (k := 1) (by decide)) (by decide)) dL_law_1888 ?_
  refine lv_aload_n hx hb dL_law_1889 rfl (lv_at hl 3 rfl) ?_
  refine lv_iload_n hx hb dL_law_1890 rfl (lv_at hl 0 rfl) ?_
  refine lv_iconst (v := 2) hx hb dL_law_1891 (by decide) ?_
  refine lv_iadd hx hb dL_law_1892 ?_
  refine lv_topi (fun w9 e9 => ?_)
  obtain rfl : w9 = 2 := e9.trans (by decide)
  refine va_sld hx hb hX hbl hbA hS (hin (iv_c (x := (2 : Int32)) (k := 2) (by decide)) (by decide)) dL_law_1893 ?_
  refine lv_aload_n hx hb dL_law_1894 rfl (lv_at hl 3 rfl) ?_
  refine lv_iload_n hx hb dL_law_1895 rfl (lv_at hl 0 rfl) ?_
  refine lv_iconst (v := 3) hx hb dL_law_1896 (by decide) ?_
  refine lv_iadd hx hb dL_law_1897 ?_
  refine lv_topi (fun w9 e9 => ?_)
  obtain rfl : w9 = 3 := e9.trans (by decide)
  refine va_sld hx hb hX hbl hbA hS (hin (iv_c (x := (3 : Int32)) (k := 3) (by decide)) (by decide)) dL_law_1898 ?_
  refine lv_i2l hx hb dL_law_1899 rfl ?_
  refine lv_bipush (v := 32) hx hb dL_law_1900 (by decide) ?_
  refine lv_lshl hx hb dL_law_1902 rfl ?_
  refine lv_topl (fun y1902 _ => ?_)
  refine lv_aload_n hx hb dL_law_1903 rfl (lv_at hl 3 rfl) ?_
  refine lv_iload_n hx hb dL_law_1904 rfl (lv_at hl 0 rfl) ?_
  refine lv_iconst (v := 4) hx hb dL_law_1905 (by decide) ?_
  refine lv_iadd hx hb dL_law_1906 ?_
  refine lv_topi (fun w9 e9 => ?_)
  obtain rfl : w9 = 4 := e9.trans (by decide)
  refine va_sld hx hb hX hbl hbA hS (hin (iv_c (x := (4 : Int32)) (k := 4) (by decide)) (by decide)) dL_law_1907 ?_
  refine lv_i2l hx hb dL_law_1908 rfl ?_
  refine lv_ldc2 (v := 4294967295) hx hb hown (hts _ kw_6) dL_law_1909 ?_
  refine lv_land hx hb dL_law_1912 ?_
  refine lv_topl (fun y1912 _ => ?_)
  refine lv_lor hx hb dL_law_1913 ?_
  refine lv_topl (fun y1913 _ => ?_)
  refine ti_calli (va_runV (As := [.int (xs (1 : Int32).toNatClampNeg), .int (xs (2 : Int32).toNatClampNeg), .long y1913]) (rest := []) ⟨hx, hb, hml, hown, hts⟩ (t_X9_write l hT1 hy1 (iv_top _) (iv_top _) (jv_top _)) (cwV 3 hts (good_V kw_1547 kw_1548 kw_1549 kw_2 kw_1550) rfl rfl rfl (by decide +kernel) ⟨by decide, by decide⟩) (ti_preV hK hT1 hy1 rfl rfl) rfl rfl hl.1 rfl (lv_room (Nat.le_of_ble_eq_true rfl)) dL_law_1914 ⟨by decide, by decide⟩) hS (fun q h => hA1 q h) (fun r1 H1 locs hB hS _ hk => ?_)
  obtain ⟨_, pr1⟩ := hB
  have hT2 := TI.frame hT2 hdis hk
  generalize H1 = H at hT2 hS ⊢
  refine lv_aload_n hx hb dL_law_1917 rfl (lv_at hl 1 rfl) ?_
  refine lv_aload_n hx hb dL_law_1918 rfl (lv_at hl 3 rfl) ?_
  refine lv_iload_n hx hb dL_law_1919 rfl (lv_at hl 0 rfl) ?_
  refine lv_iconst (v := 1) hx hb dL_law_1920 (by decide) ?_
  refine lv_iadd hx hb dL_law_1921 ?_
  refine lv_topi (fun w9 e9 => ?_)
  obtain rfl : w9 = 1 := e9.trans (by decide)
  refine va_sld hx hb hX hbl hbA hS (hin (iv_c (x := (1 : Int32)) (k := 1) (by decide)) (by decide)) dL_law_1922 ?_
  refine lv_aload_n hx hb dL_law_1923 rfl (lv_at hl 3 rfl) ?_
  refine lv_iload_n hx hb dL_law_1924 rfl (lv_at hl 0 rfl) ?_
  refine lv_iconst (v := 2) hx hb dL_law_1925 (by decide) ?_
  refine lv_iadd hx hb dL_law_1926 ?_
  refine lv_topi (fun w9 e9 => ?_)
  obtain rfl : w9 = 2 := e9.trans (by decide)
  refine va_sld hx hb hX hbl hbA hS (hin (iv_c (x := (2 : Int32)) (k := 2) (by decide)) (by decide)) dL_law_1927 ?_
  refine lv_aload_n hx hb dL_law_1928 rfl (lv_at hl 3 rfl) ?_
  refine lv_iload_n hx hb dL_law_1929 rfl (lv_at hl 0 rfl) ?_
  refine lv_iconst (v := 3) hx hb dL_law_1930 (by decide) ?_
  refine lv_iadd hx hb dL_law_1931 ?_
  refine lv_topi (fun w9 e9 => ?_)
  obtain rfl : w9 = 3 := e9.trans (by decide)
  refine va_sld hx hb hX hbl hbA hS (hin (iv_c (x := (3 : Int32)) (k := 3) (by decide)) (by decide)) dL_law_1932 ?_
  refine lv_i2l hx hb dL_law_1933 rfl ?_
  refine lv_bipush (v := 32) hx hb dL_law_1934 (by decide) ?_
  refine lv_lshl hx hb dL_law_1936 rfl ?_
  refine lv_topl (fun y1936 _ => ?_)
  refine lv_aload_n hx hb dL_law_1937 rfl (lv_at hl 3 rfl) ?_
  refine lv_iload_n hx hb dL_law_1938 rfl (lv_at hl 0 rfl) ?_
  refine lv_iconst (v := 4) hx hb dL_law_1939 (by decide) ?_
  refine lv_iadd hx hb dL_law_1940 ?_
  refine lv_topi (fun w9 e9 => ?_)
  obtain rfl : w9 = 4 := e9.trans (by decide)
  refine va_sld hx hb hX hbl hbA hS (hin (iv_c (x := (4 : Int32)) (k := 4) (by decide)) (by decide)) dL_law_1941 ?_
  refine lv_i2l hx hb dL_law_1942 rfl ?_
  refine lv_ldc2 (v := 4294967295) hx hb hown (hts _ kw_6) dL_law_1943 ?_
  refine lv_land hx hb dL_law_1946 ?_
  refine lv_topl (fun y1946 _ => ?_)
  refine lv_lor hx hb dL_law_1947 ?_
  refine lv_topl (fun y1947 _ => ?_)
  refine ti_calli (va_runV (As := [.int (xs (1 : Int32).toNatClampNeg), .int (xs (2 : Int32).toNatClampNeg), .long y1947]) (rest := [.int r1]) ⟨hx, hb, hml, hown, hts⟩ (t_X10_write l hT2 hy2 (iv_top _) (iv_top _) (jv_top _)) (cwV 3 hts (good_V kw_1555 kw_1556 kw_1557 kw_5 kw_1558) rfl rfl rfl (by decide +kernel) ⟨by decide, by decide⟩) (ti_preV hK hT2 hy2 rfl rfl) rfl rfl hl.1 rfl (lv_room (Nat.le_of_ble_eq_true rfl)) dL_law_1948 ⟨by decide, by decide⟩) hS (fun q h => hA2 q h) (fun r2 H1 locs hB hS _ hk => ?_)
  obtain ⟨_, pr2⟩ := hB
  generalize H1 = H at hS ⊢
  refine lv_icmp_eq (tgt := 2019) hx hb dL_law_1951 (by decide) (fun _ => ?_) (fun h => ?_)
  · exact law_nxt l hL hx hb hr hml hown hts hX hbl hlocks hL6 hS hl
  · exact absurd (Int32.toInt_inj.mp (by omega)) h
set_option maxHeartbeats 8000000 in
set_option maxRecDepth 100000 in
theorem law_c54 {p : Program} {e : Env} {s : State} {m : MethodId} {below : List Frame} {meth : Method} {c : Code} (l : Launch) {b L : Nat} {xs : Nat → Int32} (hL : L ≤ 6) (hx : p.tables.exec = Jvm.exec) (hb : c.code = code) (hr : meth.sig.returnType = ret) (hml : c.maxLocals = 4) (hown : s.vm.findClass RL = some m.cls) (hts : ∀ w ∈ wq, w.before #[Value.ref b] s = true) (hX : va_X b L xs s s.heap) (hbl : b < s.heap.size) (hlocks : meth.locks = false) (hL6 : L = 6) {D : va_G} {c0 : Nat → ClassId} {Y1 Y2 : Nat → Option Nat} {o1 o2 : Nat} {H : Heap} {locs : List Loc} {ls : Array Slot} (hK : va_K D vwCl (tysOf c0) s) (hN : nwA s) (hdis : ∀ q, pA Y1 q → pA Y2 q → False) (hT1 : TI D vwCl (tysOf c0) (RT1 false) Y1 H) (hy1 : Y1 o1 = some 9) (hA1 : ∀ q, pA Y1 q → s.heap.size ≤ q) (hT2 : TI D vwCl (tysOf c0) (RT1 false) Y2 H) (hy2 : Y2 o2 = some 10) (hA2 : ∀ q, pA Y2 q → s.heap.size ≤ q) (hS : va_S (fun q : Nat => s.heap.size ≤ q) s.heap H locs) (hl : lv_has ls 4 [(3, .int 0), (2, .ref o2), (1, .ref o1), (0, .ref b)]) : W p l e room_1 s m #[Value.ref b] below meth c H locs 188 7230 (lw_Z below #[Value.ref b] s) (F0 m 1956 ls []) := by
  have hbA : ¬ (fun q : Nat => s.heap.size ≤ q) b := Nat.not_le.mpr hbl
  have hin : ∀ {i : Int32} {k : Int}, iv i k k → (decide (0 ≤ k) && decide (k < 6)) = true → vp_in i L := fun h1 h2 => by rw [hL6]; exact iv_in h1 (by simpa using h2)
  refine lv_aload_n hx hb dL_law_1956 rfl (lv_at hl 2 rfl) ?_
  refine lv_aload_n hx hb dL_law_1957 rfl (lv_at hl 3 rfl) ?_
  refine lv_iload_n hx hb dL_law_1958 rfl (lv_at hl 0 rfl) ?_
  refine lv_iconst (v := 1) hx hb dL_law_1959 (by decide) ?_
  refine lv_iadd hx hb dL_law_1960 ?_
  refine lv_topi (fun w9 e9 => ?_)
  obtain rfl : w9 = 1 := e9.trans (by decide)
  refine va_sld hx hb hX hbl hbA hS (hin (iv_c (x := (1 : Int32)) (k := 1) (by decide)) (by decide)) dL_law_1961 ?_
  refine lv_aload_n hx hb dL_law_1962 rfl (lv_at hl 3 rfl) ?_
  refine lv_iload_n hx hb dL_law_1963 rfl (lv_at hl 0 rfl) ?_
  refine lv_iconst (v := 2) hx hb dL_law_1964 (by decide) ?_
  refine lv_iadd hx hb dL_law_1965 ?_
  refine lv_topi (fun w9 e9 => ?_)
  obtain rfl : w9 = 2 := e9.trans (by decide)
  refine va_sld hx hb hX hbl hbA hS (hin (iv_c (x := (2 : Int32)) (k := 2) (by decide)) (by decide)) dL_law_1966 ?_
  refine lv_aload_n hx hb dL_law_1967 rfl (lv_at hl 3 rfl) ?_
  refine lv_iload_n hx hb dL_law_1968 rfl (lv_at hl 0 rfl) ?_
  refine lv_iconst (v := 3) hx hb dL_law_1969 (by decide) ?_
  refine lv_iadd hx hb dL_law_1970 ?_
  refine lv_topi (fun w9 e9 => ?_)
  obtain rfl : w9 = 3 := e9.trans (by decide)
  refine va_sld hx hb hX hbl hbA hS (hin (iv_c (x := (3 : Int32)) (k := 3) (by decide)) (by decide)) dL_law_1971 ?_
  refine lv_aload_n hx hb dL_law_1972 rfl (lv_at hl 3 rfl) ?_
  refine lv_iload_n hx hb dL_law_1973 rfl (lv_at hl 0 rfl) ?_
  refine lv_iconst (v := 4) hx hb dL_law_1974 (by decide) ?_
  refine lv_iadd hx hb dL_law_1975 ?_
  refine lv_topi (fun w9 e9 => ?_)
  obtain rfl : w9 = 4 := e9.trans (by decide)
  refine va_sld hx hb hX hbl hbA hS (hin (iv_c (x := (4 : Int32)) (k := 4) (by decide)) (by decide)) dL_law_1976 ?_
  refine lv_aload_n hx hb dL_law_1977 rfl (lv_at hl 3 rfl) ?_
  refine lv_iload_n hx hb dL_law_1978 rfl (lv_at hl 0 rfl) ?_
  refine lv_iconst (v := 5) hx hb dL_law_1979 (by decide) ?_
  refine lv_iadd hx hb dL_law_1980 ?_
  refine lv_topi (fun w9 e9 => ?_)
  obtain rfl : w9 = 5 := e9.trans (by decide)
  refine va_sld hx hb hX hbl hbA hS (hin (iv_c (x := (5 : Int32)) (k := 5) (by decide)) (by decide)) dL_law_1981 ?_
  refine ti_calli (va_runV (As := [.int (xs (1 : Int32).toNatClampNeg), .int (xs (2 : Int32).toNatClampNeg), .int (xs (3 : Int32).toNatClampNeg), .int (xs (4 : Int32).toNatClampNeg), .int (xs (5 : Int32).toNatClampNeg)]) (rest := []) ⟨hx, hb, hml, hown, hts⟩ (t_X9_paste l hT1 hy1 (iv_top _) (iv_top _) (iv_top _) (iv_top _) (iv_top _)) (cwV 5 hts (good_V kw_1562 kw_1563 kw_1564 kw_2 kw_1565) rfl rfl rfl (by decide +kernel) ⟨by decide, by decide⟩) (ti_preV hK hT1 hy1 rfl rfl) rfl rfl hl.1 rfl (lv_room (Nat.le_of_ble_eq_true rfl)) dL_law_1982 ⟨by decide, by decide⟩) hS (fun q h => hA1 q h) (fun r1 H1 locs hB hS _ hk => ?_)
  obtain ⟨_, pr1⟩ := hB
  have hT2 := TI.frame hT2 hdis hk
  generalize H1 = H at hT2 hS ⊢
  refine lv_aload_n hx hb dL_law_1985 rfl (lv_at hl 1 rfl) ?_
  refine lv_aload_n hx hb dL_law_1986 rfl (lv_at hl 3 rfl) ?_
  refine lv_iload_n hx hb dL_law_1987 rfl (lv_at hl 0 rfl) ?_
  refine lv_iconst (v := 1) hx hb dL_law_1988 (by decide) ?_
  refine lv_iadd hx hb dL_law_1989 ?_
  refine lv_topi (fun w9 e9 => ?_)
  obtain rfl : w9 = 1 := e9.trans (by decide)
  refine va_sld hx hb hX hbl hbA hS (hin (iv_c (x := (1 : Int32)) (k := 1) (by decide)) (by decide)) dL_law_1990 ?_
  refine lv_aload_n hx hb dL_law_1991 rfl (lv_at hl 3 rfl) ?_
  refine lv_iload_n hx hb dL_law_1992 rfl (lv_at hl 0 rfl) ?_
  refine lv_iconst (v := 2) hx hb dL_law_1993 (by decide) ?_
  refine lv_iadd hx hb dL_law_1994 ?_
  refine lv_topi (fun w9 e9 => ?_)
  obtain rfl : w9 = 2 := e9.trans (by decide)
  refine va_sld hx hb hX hbl hbA hS (hin (iv_c (x := (2 : Int32)) (k := 2) (by decide)) (by decide)) dL_law_1995 ?_
  refine lv_aload_n hx hb dL_law_1996 rfl (lv_at hl 3 rfl) ?_
  refine lv_iload_n hx hb dL_law_1997 rfl (lv_at hl 0 rfl) ?_
  refine lv_iconst (v := 3) hx hb dL_law_1998 (by decide) ?_
  refine lv_iadd hx hb dL_law_1999 ?_
  refine lv_topi (fun w9 e9 => ?_)
  obtain rfl : w9 = 3 := e9.trans (by decide)
  refine va_sld hx hb hX hbl hbA hS (hin (iv_c (x := (3 : Int32)) (k := 3) (by decide)) (by decide)) dL_law_2000 ?_
  refine lv_aload_n hx hb dL_law_2001 rfl (lv_at hl 3 rfl) ?_
  refine lv_iload_n hx hb dL_law_2002 rfl (lv_at hl 0 rfl) ?_
  refine lv_iconst (v := 4) hx hb dL_law_2003 (by decide) ?_
  refine lv_iadd hx hb dL_law_2004 ?_
  refine lv_topi (fun w9 e9 => ?_)
  obtain rfl : w9 = 4 := e9.trans (by decide)
  refine va_sld hx hb hX hbl hbA hS (hin (iv_c (x := (4 : Int32)) (k := 4) (by decide)) (by decide)) dL_law_2005 ?_
  refine lv_aload_n hx hb dL_law_2006 rfl (lv_at hl 3 rfl) ?_
  refine lv_iload_n hx hb dL_law_2007 rfl (lv_at hl 0 rfl) ?_
  refine lv_iconst (v := 5) hx hb dL_law_2008 (by decide) ?_
  refine lv_iadd hx hb dL_law_2009 ?_
  refine lv_topi (fun w9 e9 => ?_)
  obtain rfl : w9 = 5 := e9.trans (by decide)
  refine va_sld hx hb hX hbl hbA hS (hin (iv_c (x := (5 : Int32)) (k := 5) (by decide)) (by decide)) dL_law_2010 ?_
  refine ti_calli (va_runV (As := [.int (xs (1 : Int32).toNatClampNeg), .int (xs (2 : Int32).toNatClampNeg), .int (xs (3 : Int32).toNatClampNeg), .int (xs (4 : Int32).toNatClampNeg), .int (xs (5 : Int32).toNatClampNeg)]) (rest := [.int r1]) ⟨hx, hb, hml, hown, hts⟩ (t_X10_paste l hT2 hy2 (iv_top _) (iv_top _) (iv_top _) (iv_top _) (iv_top _)) (cwV 5 hts (good_V kw_1572 kw_1573 kw_1574 kw_5 kw_1575) rfl rfl rfl (by decide +kernel) ⟨by decide, by decide⟩) (ti_preV hK hT2 hy2 rfl rfl) rfl rfl hl.1 rfl (lv_room (Nat.le_of_ble_eq_true rfl)) dL_law_2011 ⟨by decide, by decide⟩) hS (fun q h => hA2 q h) (fun r2 H1 locs hB hS _ hk => ?_)
  obtain ⟨_, pr2⟩ := hB
  generalize H1 = H at hS ⊢
  refine lv_icmp_eq (tgt := 2019) hx hb dL_law_2014 (by decide) (fun _ => ?_) (fun h => ?_)
  · exact law_nxt l hL hx hb hr hml hown hts hX hbl hlocks hL6 hS hl
  · exact absurd (Int32.toInt_inj.mp (by omega)) h
set_option maxHeartbeats 8000000 in
set_option maxRecDepth 100000 in
theorem law_body {p : Program} {e : Env} {s : State} {m : MethodId} {below : List Frame} {meth : Method} {c : Code} (l : Launch) {b L : Nat} {xs : Nat → Int32} (hL : L ≤ 6) (hx : p.tables.exec = Jvm.exec) (hb : c.code = code) (hr : meth.sig.returnType = ret) (hml : c.maxLocals = 4) (hown : s.vm.findClass RL = some m.cls) (hts : ∀ w ∈ wq, w.before #[Value.ref b] s = true) (hX : va_X b L xs s s.heap) (hbl : b < s.heap.size) (hlocks : meth.locks = false) {D : va_G} {c0 : Nat → ClassId} {Y1 Y2 : Nat → Option Nat} {o1 o2 : Nat} {H : Heap} {locs : List Loc} {ls : Array Slot} (hK : va_K D vwCl (tysOf c0) s) (hN : nwA s) (hdis : ∀ q, pA Y1 q → pA Y2 q → False) (hT1 : TI D vwCl (tysOf c0) (RT1 false) Y1 H) (hy1 : Y1 o1 = some 9) (hA1 : ∀ q, pA Y1 q → s.heap.size ≤ q) (hT2 : TI D vwCl (tysOf c0) (RT1 false) Y2 H) (hy2 : Y2 o2 = some 10) (hA2 : ∀ q, pA Y2 q → s.heap.size ≤ q) (hS : va_S (fun q : Nat => s.heap.size ≤ q) s.heap H locs) (hl : lv_has ls 4 [(2, .ref o2), (1, .ref o1), (0, .ref b)]) : W p l e room_1 s m #[Value.ref b] below meth c H locs 188 7230 (lw_Z below #[Value.ref b] s) (F0 m 16 ls []) := by
  have hbA : ¬ (fun q : Nat => s.heap.size ≤ q) b := Nat.not_le.mpr hbl
  refine lv_iconst (v := 0) hx hb dL_law_16 (by decide) ?_
  refine lv_istore_n (lv' := [(3, .int 0), (2, .ref o2), (1, .ref o1), (0, .ref b)]) hx hb dL_law_17 rfl hl (by decide) rfl (fun ls hl => ?_)
  refine lv_iload_n hx hb dL_law_18 rfl (lv_at hl 0 rfl) ?_
  refine lv_aload_n hx hb dL_law_19 rfl (lv_at hl 3 rfl) ?_
  refine va_slen hx hb hX hbl hbA hS dL_law_20 ?_
  refine lv_bipush (v := 6) hx hb dL_law_21 (by decide) ?_
  refine lv_isub hx hb dL_law_23 ?_
  refine lv_icmp_gt (tgt := 2025) hx hb dL_law_24 (by decide) (fun _ => law_fin l hL hx hb hr hml hown hts hX hbl hlocks hS) (fun h => ?_)
  have hL6 : L = 6 := by
    have q := i_nlt h
    have z : (0 : Int32).toInt = 0 := by decide
    have e1 : (Int32.ofNat L).toInt = (L : Int) := Int32.toInt_ofNat_of_lt (by omega)
    have e2 : iv (Int32.ofNat L) 0 6 := ⟨by omega, by omega⟩
    have e3 := iv_subE e2 (iv_c (x := (6 : Int32)) (k := 6) (by decide)) (by decide)
    have e4 : (6 : Int32).toInt = 6 := by decide
    omega
  refine lv_aload_n hx hb dL_law_27 rfl (lv_at hl 3 rfl) ?_
  refine lv_iload_n hx hb dL_law_28 rfl (lv_at hl 0 rfl) ?_
  refine va_sld hx hb hX hbl hbA hS (by rw [hL6]; exact iv_in (iv_c (x := (0 : Int32)) (k := 0) (by decide)) (by decide)) dL_law_29 ?_
  refine lv_bipush (v := 63) hx hb dL_law_30 (by decide) ?_
  refine lv_iand hx hb dL_law_32 ?_
  refine lv_topi (fun v ev => ?_)
  have hv : iv v 0 63 := by rw [ev]; exact iv_and (iv_w (iv_c (x := (63 : Int32)) (k := 63) (by decide)) (by decide))
  by_cases c0 : v.toInt = 0
  · refine lv_tableIn (off := 235) (tgt := 268) hx hb dL_law_33 (by omega) (by omega) (by rw [c0]; rfl) (by decide) ?_
    exact law_c0 l hL hx hb hr hml hown hts hX hbl hlocks hL6 hK hN hdis hT1 hy1 hA1 hT2 hy2 hA2 hS hl
  by_cases c1 : v.toInt = 1
  · refine lv_tableIn (off := 298) (tgt := 331) hx hb dL_law_33 (by omega) (by omega) (by rw [c1]; rfl) (by decide) ?_
    exact law_c1 l hL hx hb hr hml hown hts hX hbl hlocks hL6 hK hN hdis hT1 hy1 hA1 hT2 hy2 hA2 hS hl
  by_cases c2 : v.toInt = 2
  · refine lv_tableIn (off := 321) (tgt := 354) hx hb dL_law_33 (by omega) (by omega) (by rw [c2]; rfl) (by decide) ?_
    exact law_c2 l hL hx hb hr hml hown hts hX hbl hlocks hL6 hK hN hdis hT1 hy1 hA1 hT2 hy2 hA2 hS hl
  by_cases c3 : v.toInt = 3
  · refine lv_tableIn (off := 334) (tgt := 367) hx hb dL_law_33 (by omega) (by omega) (by rw [c3]; rfl) (by decide) ?_
    exact law_c3 l hL hx hb hr hml hown hts hX hbl hlocks hL6 hK hN hdis hT1 hy1 hA1 hT2 hy2 hA2 hS hl
  by_cases c4 : v.toInt = 4
  · refine lv_tableIn (off := 357) (tgt := 390) hx hb dL_law_33 (by omega) (by omega) (by rw [c4]; rfl) (by decide) ?_
    exact law_c4 l hL hx hb hr hml hown hts hX hbl hlocks hL6 hK hN hdis hT1 hy1 hA1 hT2 hy2 hA2 hS hl
  by_cases c5 : v.toInt = 5
  · refine lv_tableIn (off := 390) (tgt := 423) hx hb dL_law_33 (by omega) (by omega) (by rw [c5]; rfl) (by decide) ?_
    exact law_c5 l hL hx hb hr hml hown hts hX hbl hlocks hL6 hK hN hdis hT1 hy1 hA1 hT2 hy2 hA2 hS hl
  by_cases c6 : v.toInt = 6
  · refine lv_tableIn (off := 423) (tgt := 456) hx hb dL_law_33 (by omega) (by omega) (by rw [c6]; rfl) (by decide) ?_
    exact law_c6 l hL hx hb hr hml hown hts hX hbl hlocks hL6 hK hN hdis hT1 hy1 hA1 hT2 hy2 hA2 hS hl
  by_cases c7 : v.toInt = 7
  · refine lv_tableIn (off := 456) (tgt := 489) hx hb dL_law_33 (by omega) (by omega) (by rw [c7]; rfl) (by decide) ?_
    exact law_c7 l hL hx hb hr hml hown hts hX hbl hlocks hL6 hK hN hdis hT1 hy1 hA1 hT2 hy2 hA2 hS hl
  by_cases c8 : v.toInt = 8
  · refine lv_tableIn (off := 489) (tgt := 522) hx hb dL_law_33 (by omega) (by omega) (by rw [c8]; rfl) (by decide) ?_
    exact law_c8 l hL hx hb hr hml hown hts hX hbl hlocks hL6 hK hN hdis hT1 hy1 hA1 hT2 hy2 hA2 hS hl
  by_cases c9 : v.toInt = 9
  · refine lv_tableIn (off := 532) (tgt := 565) hx hb dL_law_33 (by omega) (by omega) (by rw [c9]; rfl) (by decide) ?_
    exact law_c9 l hL hx hb hr hml hown hts hX hbl hlocks hL6 hK hN hdis hT1 hy1 hA1 hT2 hy2 hA2 hS hl
  by_cases c10 : v.toInt = 10
  · refine lv_tableIn (off := 545) (tgt := 578) hx hb dL_law_33 (by omega) (by omega) (by rw [c10]; rfl) (by decide) ?_
    exact law_c10 l hL hx hb hr hml hown hts hX hbl hlocks hL6 hK hN hdis hT1 hy1 hA1 hT2 hy2 hA2 hS hl
  by_cases c11 : v.toInt = 11
  · refine lv_tableIn (off := 558) (tgt := 591) hx hb dL_law_33 (by omega) (by omega) (by rw [c11]; rfl) (by decide) ?_
    exact law_c11 l hL hx hb hr hml hown hts hX hbl hlocks hL6 hK hN hdis hT1 hy1 hA1 hT2 hy2 hA2 hS hl
  by_cases c12 : v.toInt = 12
  · refine lv_tableIn (off := 581) (tgt := 614) hx hb dL_law_33 (by omega) (by omega) (by rw [c12]; rfl) (by decide) ?_
    exact law_c12 l hL hx hb hr hml hown hts hX hbl hlocks hL6 hK hN hdis hT1 hy1 hA1 hT2 hy2 hA2 hS hl
  by_cases c13 : v.toInt = 13
  · refine lv_tableIn (off := 594) (tgt := 627) hx hb dL_law_33 (by omega) (by omega) (by rw [c13]; rfl) (by decide) ?_
    exact law_c13 l hL hx hb hr hml hown hts hX hbl hlocks hL6 hK hN hdis hT1 hy1 hA1 hT2 hy2 hA2 hS hl
  by_cases c14 : v.toInt = 14
  · refine lv_tableIn (off := 657) (tgt := 690) hx hb dL_law_33 (by omega) (by omega) (by rw [c14]; rfl) (by decide) ?_
    exact law_c14 l hL hx hb hr hml hown hts hX hbl hlocks hL6 hK hN hdis hT1 hy1 hA1 hT2 hy2 hA2 hS hl
  by_cases c15 : v.toInt = 15
  · refine lv_tableIn (off := 680) (tgt := 713) hx hb dL_law_33 (by omega) (by omega) (by rw [c15]; rfl) (by decide) ?_
    exact law_c15 l hL hx hb hr hml hown hts hX hbl hlocks hL6 hK hN hdis hT1 hy1 hA1 hT2 hy2 hA2 hS hl
  by_cases c16 : v.toInt = 16
  · refine lv_tableIn (off := 703) (tgt := 736) hx hb dL_law_33 (by omega) (by omega) (by rw [c16]; rfl) (by decide) ?_
    exact law_c16 l hL hx hb hr hml hown hts hX hbl hlocks hL6 hK hN hdis hT1 hy1 hA1 hT2 hy2 hA2 hS hl
  by_cases c17 : v.toInt = 17
  · refine lv_tableIn (off := 766) (tgt := 799) hx hb dL_law_33 (by omega) (by omega) (by rw [c17]; rfl) (by decide) ?_
    exact law_c17 l hL hx hb hr hml hown hts hX hbl hlocks hL6 hK hN hdis hT1 hy1 hA1 hT2 hy2 hA2 hS hl
  by_cases c18 : v.toInt = 18
  · refine lv_tableIn (off := 799) (tgt := 832) hx hb dL_law_33 (by omega) (by omega) (by rw [c18]; rfl) (by decide) ?_
    exact law_c18 l hL hx hb hr hml hown hts hX hbl hlocks hL6 hK hN hdis hT1 hy1 hA1 hT2 hy2 hA2 hS hl
  by_cases c19 : v.toInt = 19
  · refine lv_tableIn (off := 832) (tgt := 865) hx hb dL_law_33 (by omega) (by omega) (by rw [c19]; rfl) (by decide) ?_
    exact law_c19 l hL hx hb hr hml hown hts hX hbl hlocks hL6 hK hN hdis hT1 hy1 hA1 hT2 hy2 hA2 hS hl
  by_cases c20 : v.toInt = 20
  · refine lv_tableIn (off := 855) (tgt := 888) hx hb dL_law_33 (by omega) (by omega) (by rw [c20]; rfl) (by decide) ?_
    exact law_c20 l hL hx hb hr hml hown hts hX hbl hlocks hL6 hK hN hdis hT1 hy1 hA1 hT2 hy2 hA2 hS hl
  by_cases c21 : v.toInt = 21
  · refine lv_tableIn (off := 868) (tgt := 901) hx hb dL_law_33 (by omega) (by omega) (by rw [c21]; rfl) (by decide) ?_
    exact law_c21 l hL hx hb hr hml hown hts hX hbl hlocks hL6 hK hN hdis hT1 hy1 hA1 hT2 hy2 hA2 hS hl
  by_cases c22 : v.toInt = 22
  · refine lv_tableIn (off := 891) (tgt := 924) hx hb dL_law_33 (by omega) (by omega) (by rw [c22]; rfl) (by decide) ?_
    exact law_c22 l hL hx hb hr hml hown hts hX hbl hlocks hL6 hK hN hdis hT1 hy1 hA1 hT2 hy2 hA2 hS hl
  by_cases c23 : v.toInt = 23
  · refine lv_tableIn (off := 934) (tgt := 967) hx hb dL_law_33 (by omega) (by omega) (by rw [c23]; rfl) (by decide) ?_
    exact law_c23 l hL hx hb hr hml hown hts hX hbl hlocks hL6 hK hN hdis hT1 hy1 hA1 hT2 hy2 hA2 hS hl
  by_cases c24 : v.toInt = 24
  · refine lv_tableIn (off := 967) (tgt := 1000) hx hb dL_law_33 (by omega) (by omega) (by rw [c24]; rfl) (by decide) ?_
    exact law_c24 l hL hx hb hr hml hown hts hX hbl hlocks hL6 hK hN hdis hT1 hy1 hA1 hT2 hy2 hA2 hS hl
  by_cases c25 : v.toInt = 25
  · refine lv_tableIn (off := 1000) (tgt := 1033) hx hb dL_law_33 (by omega) (by omega) (by rw [c25]; rfl) (by decide) ?_
    exact law_c25 l hL hx hb hr hml hown hts hX hbl hlocks hL6 hK hN hdis hT1 hy1 hA1 hT2 hy2 hA2 hS hl
  by_cases c26 : v.toInt = 26
  · refine lv_tableIn (off := 1023) (tgt := 1056) hx hb dL_law_33 (by omega) (by omega) (by rw [c26]; rfl) (by decide) ?_
    exact law_c26 l hL hx hb hr hml hown hts hX hbl hlocks hL6 hK hN hdis hT1 hy1 hA1 hT2 hy2 hA2 hS hl
  by_cases c27 : v.toInt = 27
  · refine lv_tableIn (off := 1036) (tgt := 1069) hx hb dL_law_33 (by omega) (by omega) (by rw [c27]; rfl) (by decide) ?_
    exact law_c27 l hL hx hb hr hml hown hts hX hbl hlocks hL6 hK hN hdis hT1 hy1 hA1 hT2 hy2 hA2 hS hl
  by_cases c28 : v.toInt = 28
  · refine lv_tableIn (off := 1069) (tgt := 1102) hx hb dL_law_33 (by omega) (by omega) (by rw [c28]; rfl) (by decide) ?_
    exact law_c28 l hL hx hb hr hml hown hts hX hbl hlocks hL6 hK hN hdis hT1 hy1 hA1 hT2 hy2 hA2 hS hl
  by_cases c29 : v.toInt = 29
  · refine lv_tableIn (off := 1138) (tgt := 1171) hx hb dL_law_33 (by omega) (by omega) (by rw [c29]; rfl) (by decide) ?_
    exact law_c29 l hL hx hb hr hml hown hts hX hbl hlocks hL6 hK hN hdis hT1 hy1 hA1 hT2 hy2 hA2 hS hl
  by_cases c30 : v.toInt = 30
  · refine lv_tableIn (off := 1161) (tgt := 1194) hx hb dL_law_33 (by omega) (by omega) (by rw [c30]; rfl) (by decide) ?_
    exact law_c30 l hL hx hb hr hml hown hts hX hbl hlocks hL6 hK hN hdis hT1 hy1 hA1 hT2 hy2 hA2 hS hl
  by_cases c31 : v.toInt = 31
  · refine lv_tableIn (off := 1194) (tgt := 1227) hx hb dL_law_33 (by omega) (by omega) (by rw [c31]; rfl) (by decide) ?_
    exact law_c31 l hL hx hb hr hml hown hts hX hbl hlocks hL6 hK hN hdis hT1 hy1 hA1 hT2 hy2 hA2 hS hl
  by_cases c32 : v.toInt = 32
  · refine lv_tableIn (off := 1227) (tgt := 1260) hx hb dL_law_33 (by omega) (by omega) (by rw [c32]; rfl) (by decide) ?_
    exact law_c32 l hL hx hb hr hml hown hts hX hbl hlocks hL6 hK hN hdis hT1 hy1 hA1 hT2 hy2 hA2 hS hl
  by_cases c33 : v.toInt = 33
  · refine lv_tableIn (off := 1250) (tgt := 1283) hx hb dL_law_33 (by omega) (by omega) (by rw [c33]; rfl) (by decide) ?_
    exact law_c33 l hL hx hb hr hml hown hts hX hbl hlocks hL6 hK hN hdis hT1 hy1 hA1 hT2 hy2 hA2 hS hl
  by_cases c34 : v.toInt = 34
  · refine lv_tableIn (off := 1273) (tgt := 1306) hx hb dL_law_33 (by omega) (by omega) (by rw [c34]; rfl) (by decide) ?_
    exact law_c34 l hL hx hb hr hml hown hts hX hbl hlocks hL6 hK hN hdis hT1 hy1 hA1 hT2 hy2 hA2 hS hl
  by_cases c35 : v.toInt = 35
  · refine lv_tableIn (off := 1306) (tgt := 1339) hx hb dL_law_33 (by omega) (by omega) (by rw [c35]; rfl) (by decide) ?_
    exact law_c35 l hL hx hb hr hml hown hts hX hbl hlocks hL6 hK hN hdis hT1 hy1 hA1 hT2 hy2 hA2 hS hl
  by_cases c36 : v.toInt = 36
  · refine lv_tableIn (off := 1349) (tgt := 1382) hx hb dL_law_33 (by omega) (by omega) (by rw [c36]; rfl) (by decide) ?_
    exact law_c36 l hL hx hb hr hml hown hts hX hbl hlocks hL6 hK hN hdis hT1 hy1 hA1 hT2 hy2 hA2 hS hl
  by_cases c37 : v.toInt = 37
  · refine lv_tableIn (off := 1382) (tgt := 1415) hx hb dL_law_33 (by omega) (by omega) (by rw [c37]; rfl) (by decide) ?_
    exact law_c37 l hL hx hb hr hml hown hts hX hbl hlocks hL6 hK hN hdis hT1 hy1 hA1 hT2 hy2 hA2 hS hl
  by_cases c38 : v.toInt = 38
  · refine lv_tableIn (off := 1415) (tgt := 1448) hx hb dL_law_33 (by omega) (by omega) (by rw [c38]; rfl) (by decide) ?_
    exact law_c38 l hL hx hb hr hml hown hts hX hbl hlocks hL6 hK hN hdis hT1 hy1 hA1 hT2 hy2 hA2 hS hl
  by_cases c39 : v.toInt = 39
  · refine lv_tableIn (off := 1448) (tgt := 1481) hx hb dL_law_33 (by omega) (by omega) (by rw [c39]; rfl) (by decide) ?_
    exact law_c39 l hL hx hb hr hml hown hts hX hbl hlocks hL6 hK hN hdis hT1 hy1 hA1 hT2 hy2 hA2 hS hl
  by_cases c40 : v.toInt = 40
  · refine lv_tableIn (off := 1481) (tgt := 1514) hx hb dL_law_33 (by omega) (by omega) (by rw [c40]; rfl) (by decide) ?_
    exact law_c40 l hL hx hb hr hml hown hts hX hbl hlocks hL6 hK hN hdis hT1 hy1 hA1 hT2 hy2 hA2 hS hl
  by_cases c41 : v.toInt = 41
  · refine lv_tableIn (off := 1514) (tgt := 1547) hx hb dL_law_33 (by omega) (by omega) (by rw [c41]; rfl) (by decide) ?_
    exact law_c41 l hL hx hb hr hml hown hts hX hbl hlocks hL6 hK hN hdis hT1 hy1 hA1 hT2 hy2 hA2 hS hl
  by_cases c42 : v.toInt = 42
  · refine lv_tableIn (off := 1537) (tgt := 1570) hx hb dL_law_33 (by omega) (by omega) (by rw [c42]; rfl) (by decide) ?_
    exact law_c42 l hL hx hb hr hml hown hts hX hbl hlocks hL6 hK hN hdis hT1 hy1 hA1 hT2 hy2 hA2 hS hl
  by_cases c43 : v.toInt = 43
  · refine lv_tableIn (off := 1560) (tgt := 1593) hx hb dL_law_33 (by omega) (by omega) (by rw [c43]; rfl) (by decide) ?_
    exact law_c43 l hL hx hb hr hml hown hts hX hbl hlocks hL6 hK hN hdis hT1 hy1 hA1 hT2 hy2 hA2 hS hl
  by_cases c44 : v.toInt = 44
  · refine lv_tableIn (off := 1593) (tgt := 1626) hx hb dL_law_33 (by omega) (by omega) (by rw [c44]; rfl) (by decide) ?_
    exact law_c44 l hL hx hb hr hml hown hts hX hbl hlocks hL6 hK hN hdis hT1 hy1 hA1 hT2 hy2 hA2 hS hl
  by_cases c45 : v.toInt = 45
  · refine lv_tableIn (off := 1636) (tgt := 1669) hx hb dL_law_33 (by omega) (by omega) (by rw [c45]; rfl) (by decide) ?_
    exact law_c45 l hL hx hb hr hml hown hts hX hbl hlocks hL6 hK hN hdis hT1 hy1 hA1 hT2 hy2 hA2 hS hl
  by_cases c46 : v.toInt = 46
  · refine lv_tableIn (off := 1649) (tgt := 1682) hx hb dL_law_33 (by omega) (by omega) (by rw [c46]; rfl) (by decide) ?_
    exact law_c46 l hL hx hb hr hml hown hts hX hbl hlocks hL6 hK hN hdis hT1 hy1 hA1 hT2 hy2 hA2 hS hl
  by_cases c47 : v.toInt = 47
  · refine lv_tableIn (off := 1682) (tgt := 1715) hx hb dL_law_33 (by omega) (by omega) (by rw [c47]; rfl) (by decide) ?_
    exact law_c47 l hL hx hb hr hml hown hts hX hbl hlocks hL6 hK hN hdis hT1 hy1 hA1 hT2 hy2 hA2 hS hl
  by_cases c48 : v.toInt = 48
  · refine lv_tableIn (off := 1715) (tgt := 1748) hx hb dL_law_33 (by omega) (by omega) (by rw [c48]; rfl) (by decide) ?_
    exact law_c48 l hL hx hb hr hml hown hts hX hbl hlocks hL6 hK hN hdis hT1 hy1 hA1 hT2 hy2 hA2 hS hl
  by_cases c49 : v.toInt = 49
  · refine lv_tableIn (off := 1738) (tgt := 1771) hx hb dL_law_33 (by omega) (by omega) (by rw [c49]; rfl) (by decide) ?_
    exact law_c49 l hL hx hb hr hml hown hts hX hbl hlocks hL6 hK hN hdis hT1 hy1 hA1 hT2 hy2 hA2 hS hl
  by_cases c50 : v.toInt = 50
  · refine lv_tableIn (off := 1761) (tgt := 1794) hx hb dL_law_33 (by omega) (by omega) (by rw [c50]; rfl) (by decide) ?_
    exact law_c50 l hL hx hb hr hml hown hts hX hbl hlocks hL6 hK hN hdis hT1 hy1 hA1 hT2 hy2 hA2 hS hl
  by_cases c51 : v.toInt = 51
  · refine lv_tableIn (off := 1784) (tgt := 1817) hx hb dL_law_33 (by omega) (by omega) (by rw [c51]; rfl) (by decide) ?_
    exact law_c51 l hL hx hb hr hml hown hts hX hbl hlocks hL6 hK hN hdis hT1 hy1 hA1 hT2 hy2 hA2 hS hl
  by_cases c52 : v.toInt = 52
  · refine lv_tableIn (off := 1807) (tgt := 1840) hx hb dL_law_33 (by omega) (by omega) (by rw [c52]; rfl) (by decide) ?_
    exact law_c52 l hL hx hb hr hml hown hts hX hbl hlocks hL6 hK hN hdis hT1 hy1 hA1 hT2 hy2 hA2 hS hl
  by_cases c53 : v.toInt = 53
  · refine lv_tableIn (off := 1850) (tgt := 1883) hx hb dL_law_33 (by omega) (by omega) (by rw [c53]; rfl) (by decide) ?_
    exact law_c53 l hL hx hb hr hml hown hts hX hbl hlocks hL6 hK hN hdis hT1 hy1 hA1 hT2 hy2 hA2 hS hl
  by_cases c54 : v.toInt = 54
  · refine lv_tableIn (off := 1923) (tgt := 1956) hx hb dL_law_33 (by omega) (by omega) (by rw [c54]; rfl) (by decide) ?_
    exact law_c54 l hL hx hb hr hml hown hts hX hbl hlocks hL6 hK hN hdis hT1 hy1 hA1 hT2 hy2 hA2 hS hl
  refine lv_tableOut (tgt := 2019) hx hb dL_law_33 (by have a1 := hv.1; have a2 := hv.2; omega) (by decide) ?_
  exact law_nxt l hL hx hb hr hml hown hts hX hbl hlocks hL6 hS hl
