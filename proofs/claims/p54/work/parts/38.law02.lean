set_option maxHeartbeats 8000000 in
set_option maxRecDepth 100000 in
theorem law_c22 {p : Program} {e : Env} {s : State} {m : MethodId} {below : List Frame} {meth : Method} {c : Code} (l : Launch) {b L : Nat} {xs : Nat → Int32} (hL : L ≤ 3072) (hx : p.tables.exec = Jvm.exec) (hb : c.code = code) (hr : meth.sig.returnType = ret) (hml : c.maxLocals = 4) (hown : s.vm.findClass RL = some m.cls) (hts : ∀ w ∈ wq, w.before #[Value.ref b] s = true) (hX : va_X b L xs s s.heap) (hbl : b < s.heap.size) (hlocks : meth.locks = false) {D : va_G} {c0 : Nat → ClassId} {Y1 Y2 : Nat → Option Nat} {o1 o2 : Nat} {adK adV : Nat → Nat} (hK : va_K D vwCl (tysOf c0) s) (hSO : SO (fun q : Nat => s.heap.size ≤ q) adK adV s s.heap) (hdis : ∀ q, pA Y1 q → pA Y2 q → False) (hU : uq Y2) (hy1 : Y1 o1 = some 9) (hA1 : ∀ q, pA Y1 q → s.heap.size ≤ q) (hy2 : Y2 o2 = some 10) (hA2 : ∀ q, pA Y2 q → s.heap.size ≤ q) {ν2 : Nat → Nat} {i : Int32} {H : Heap} {locs : List Loc} {ls : Array Slot} (hi : iv i 0 3066) (hiL : i.toInt + 6 ≤ (L : Int)) (hT1 : TI D vwCl (tysOf c0) (RTg (fun _ => 0)) Y1 H) (hT2 : TI D vwCl (tysOf c0) (RTg ν2) Y2 H) (hν : nuOK ν2) (hS : va_S (fun q : Nat => s.heap.size ≤ q) s.heap H locs) (hl : lv_has ls 4 [(3, .int i), (2, .ref o2), (1, .ref o1), (0, .ref b)]) (nxt : ∀ (ν2 : Nat → Nat) (H : Heap) (locs : List Loc), TI D vwCl (tysOf c0) (RTg (fun _ => 0)) Y1 H → TI D vwCl (tysOf c0) (RTg ν2) Y2 H → nuOK ν2 → va_S (fun q : Nat => s.heap.size ≤ q) s.heap H locs → W p l e room_1 s m #[Value.ref b] below meth c H locs 188 7230 (lw_Z below #[Value.ref b] s) (F0 m 2019 ls [])) : W p l e room_1 s m #[Value.ref b] below meth c H locs 188 7230 (lw_Z below #[Value.ref b] s) (F0 m 924 ls []) := by
  have hbA : ¬ (fun q : Nat => s.heap.size ≤ q) b := Nat.not_le.mpr hbl
  refine lv_aload_n hx hb dL_law_924 rfl (lv_at hl 2 rfl) ?_
  refine lv_aload_n hx hb dL_law_925 rfl (lv_at hl 3 rfl) ?_
  refine lv_iload_n hx hb dL_law_926 rfl (lv_at hl 0 rfl) ?_
  refine lv_iconst (v := 1) hx hb dL_law_927 (by decide) ?_
  refine lv_iadd hx hb dL_law_928 ?_
  refine va_sld (i := i + 1) hx hb hX hbl hbA hS (law_in hi hiL (d := 1) (by decide) (by decide) (by decide)) dL_law_929 ?_
  refine lv_aload_n hx hb dL_law_930 rfl (lv_at hl 3 rfl) ?_
  refine lv_iload_n hx hb dL_law_931 rfl (lv_at hl 0 rfl) ?_
  refine lv_iconst (v := 2) hx hb dL_law_932 (by decide) ?_
  refine lv_iadd hx hb dL_law_933 ?_
  refine va_sld (i := i + 2) hx hb hX hbl hbA hS (law_in hi hiL (d := 2) (by decide) (by decide) (by decide)) dL_law_934 ?_
  refine lv_aload_n hx hb dL_law_935 rfl (lv_at hl 3 rfl) ?_
  refine lv_iload_n hx hb dL_law_936 rfl (lv_at hl 0 rfl) ?_
  refine lv_iconst (v := 3) hx hb dL_law_937 (by decide) ?_
  refine lv_iadd hx hb dL_law_938 ?_
  refine va_sld (i := i + 3) hx hb hX hbl hbA hS (law_in hi hiL (d := 3) (by decide) (by decide) (by decide)) dL_law_939 ?_
  refine ti_calli (va_runV (As := [.int (xs (i + 1).toNatClampNeg), .int (xs (i + 2).toNatClampNeg), .int (xs (i + 3).toNatClampNeg)]) (rest := []) ⟨hx, hb, hml, hown, hts⟩ (t_X9_total l hT1 hy1 (iv_top _) (iv_top _) (iv_top _)) (cwV 3 hts (good_V kw_1107 kw_1108 kw_1109 kw_2 kw_1110) rfl rfl rfl (by decide +kernel) ⟨by decide, by decide⟩) (ti_preV hK hT1 hy1 rfl rfl) rfl rfl hl.1 rfl (lv_room (Nat.le_of_ble_eq_true rfl)) dL_law_940 ⟨by decide, by decide⟩) hS (fun q h => hA1 q (pW_pA h)) (fun r1 H locs hB hS _ hk => ?_)
  have hT1 := hB
  have hT2 := TI.frameW hT2 hdis hk
  refine lv_pop hx hb dL_law_943 rfl ?_
  refine lv_aload_n hx hb dL_law_944 rfl (lv_at hl 1 rfl) ?_
  refine lv_aload_n hx hb dL_law_945 rfl (lv_at hl 3 rfl) ?_
  refine lv_iload_n hx hb dL_law_946 rfl (lv_at hl 0 rfl) ?_
  refine lv_iconst (v := 1) hx hb dL_law_947 (by decide) ?_
  refine lv_iadd hx hb dL_law_948 ?_
  refine va_sld (i := i + 1) hx hb hX hbl hbA hS (law_in hi hiL (d := 1) (by decide) (by decide) (by decide)) dL_law_949 ?_
  refine lv_aload_n hx hb dL_law_950 rfl (lv_at hl 3 rfl) ?_
  refine lv_iload_n hx hb dL_law_951 rfl (lv_at hl 0 rfl) ?_
  refine lv_iconst (v := 2) hx hb dL_law_952 (by decide) ?_
  refine lv_iadd hx hb dL_law_953 ?_
  refine va_sld (i := i + 2) hx hb hX hbl hbA hS (law_in hi hiL (d := 2) (by decide) (by decide) (by decide)) dL_law_954 ?_
  refine lv_aload_n hx hb dL_law_955 rfl (lv_at hl 3 rfl) ?_
  refine lv_iload_n hx hb dL_law_956 rfl (lv_at hl 0 rfl) ?_
  refine lv_iconst (v := 3) hx hb dL_law_957 (by decide) ?_
  refine lv_iadd hx hb dL_law_958 ?_
  refine va_sld (i := i + 3) hx hb hX hbl hbA hS (law_in hi hiL (d := 3) (by decide) (by decide) (by decide)) dL_law_959 ?_
  refine ti_calli (va_runV (As := [.int (xs (i + 1).toNatClampNeg), .int (xs (i + 2).toNatClampNeg), .int (xs (i + 3).toNatClampNeg)]) (rest := []) ⟨hx, hb, hml, hown, hts⟩ (t_X10_total l hT2 hy2 (iv_top _) (iv_top _) (iv_top _) hν.1 hν.2.2.1 hU) (cwV 3 hts (good_V kw_1128 kw_1129 kw_1130 kw_5 kw_1131) rfl rfl rfl (by decide +kernel) ⟨by decide, by decide⟩) (ti_preV hK hT2 hy2 rfl rfl) rfl rfl hl.1 rfl (lv_room (Nat.le_of_ble_eq_true rfl)) dL_law_960 ⟨by decide, by decide⟩) hS (fun q h => hA2 q (pW_pA h)) (fun r2 H locs hB hS _ hk => ?_)
  have hT2 := hB
  have hT1 := TI.frameW hT1 (fun q h1 h2 => hdis q h2 h1) hk
  refine lv_pop hx hb dL_law_963 rfl ?_
  refine lv_goto (tgt := 2019) hx hb dL_law_964 (by decide) ?_
  exact nxt ν2 H locs hT1 hT2 hν hS
set_option maxHeartbeats 8000000 in
set_option maxRecDepth 100000 in
theorem law_c23 {p : Program} {e : Env} {s : State} {m : MethodId} {below : List Frame} {meth : Method} {c : Code} (l : Launch) {b L : Nat} {xs : Nat → Int32} (hL : L ≤ 3072) (hx : p.tables.exec = Jvm.exec) (hb : c.code = code) (hr : meth.sig.returnType = ret) (hml : c.maxLocals = 4) (hown : s.vm.findClass RL = some m.cls) (hts : ∀ w ∈ wq, w.before #[Value.ref b] s = true) (hX : va_X b L xs s s.heap) (hbl : b < s.heap.size) (hlocks : meth.locks = false) {D : va_G} {c0 : Nat → ClassId} {Y1 Y2 : Nat → Option Nat} {o1 o2 : Nat} {adK adV : Nat → Nat} (hK : va_K D vwCl (tysOf c0) s) (hSO : SO (fun q : Nat => s.heap.size ≤ q) adK adV s s.heap) (hdis : ∀ q, pA Y1 q → pA Y2 q → False) (hU : uq Y2) (hy1 : Y1 o1 = some 9) (hA1 : ∀ q, pA Y1 q → s.heap.size ≤ q) (hy2 : Y2 o2 = some 10) (hA2 : ∀ q, pA Y2 q → s.heap.size ≤ q) {ν2 : Nat → Nat} {i : Int32} {H : Heap} {locs : List Loc} {ls : Array Slot} (hi : iv i 0 3066) (hiL : i.toInt + 6 ≤ (L : Int)) (hT1 : TI D vwCl (tysOf c0) (RTg (fun _ => 0)) Y1 H) (hT2 : TI D vwCl (tysOf c0) (RTg ν2) Y2 H) (hν : nuOK ν2) (hS : va_S (fun q : Nat => s.heap.size ≤ q) s.heap H locs) (hl : lv_has ls 4 [(3, .int i), (2, .ref o2), (1, .ref o1), (0, .ref b)]) (nxt : ∀ (ν2 : Nat → Nat) (H : Heap) (locs : List Loc), TI D vwCl (tysOf c0) (RTg (fun _ => 0)) Y1 H → TI D vwCl (tysOf c0) (RTg ν2) Y2 H → nuOK ν2 → va_S (fun q : Nat => s.heap.size ≤ q) s.heap H locs → W p l e room_1 s m #[Value.ref b] below meth c H locs 188 7230 (lw_Z below #[Value.ref b] s) (F0 m 2019 ls [])) : W p l e room_1 s m #[Value.ref b] below meth c H locs 188 7230 (lw_Z below #[Value.ref b] s) (F0 m 967 ls []) := by
  have hbA : ¬ (fun q : Nat => s.heap.size ≤ q) b := Nat.not_le.mpr hbl
  refine lv_aload_n hx hb dL_law_967 rfl (lv_at hl 2 rfl) ?_
  refine lv_aload_n hx hb dL_law_968 rfl (lv_at hl 3 rfl) ?_
  refine lv_iload_n hx hb dL_law_969 rfl (lv_at hl 0 rfl) ?_
  refine lv_iconst (v := 1) hx hb dL_law_970 (by decide) ?_
  refine lv_iadd hx hb dL_law_971 ?_
  refine va_sld (i := i + 1) hx hb hX hbl hbA hS (law_in hi hiL (d := 1) (by decide) (by decide) (by decide)) dL_law_972 ?_
  refine lv_aload_n hx hb dL_law_973 rfl (lv_at hl 3 rfl) ?_
  refine lv_iload_n hx hb dL_law_974 rfl (lv_at hl 0 rfl) ?_
  refine lv_iconst (v := 2) hx hb dL_law_975 (by decide) ?_
  refine lv_iadd hx hb dL_law_976 ?_
  refine va_sld (i := i + 2) hx hb hX hbl hbA hS (law_in hi hiL (d := 2) (by decide) (by decide) (by decide)) dL_law_977 ?_
  refine ti_calli (va_runV (As := [.int (xs (i + 1).toNatClampNeg), .int (xs (i + 2).toNatClampNeg)]) (rest := []) ⟨hx, hb, hml, hown, hts⟩ (t_X9_way l hT1 hy1 (iv_top _) (iv_top _)) (cwV 2 hts (good_V kw_1145 kw_1146 kw_1147 kw_2 kw_1148) rfl rfl rfl (by decide +kernel) ⟨by decide, by decide⟩) (ti_preV hK hT1 hy1 rfl rfl) rfl rfl hl.1 rfl (lv_room (Nat.le_of_ble_eq_true rfl)) dL_law_978 ⟨by decide, by decide⟩) hS (fun q h => hA1 q (pW_pA h)) (fun r1 H locs hB hS _ hk => ?_)
  obtain ⟨hT1, ir1⟩ := hB
  have hT2 := TI.frameW hT2 hdis hk
  refine lv_pop hx hb dL_law_981 rfl ?_
  refine lv_aload_n hx hb dL_law_982 rfl (lv_at hl 1 rfl) ?_
  refine lv_aload_n hx hb dL_law_983 rfl (lv_at hl 3 rfl) ?_
  refine lv_iload_n hx hb dL_law_984 rfl (lv_at hl 0 rfl) ?_
  refine lv_iconst (v := 1) hx hb dL_law_985 (by decide) ?_
  refine lv_iadd hx hb dL_law_986 ?_
  refine va_sld (i := i + 1) hx hb hX hbl hbA hS (law_in hi hiL (d := 1) (by decide) (by decide) (by decide)) dL_law_987 ?_
  refine lv_aload_n hx hb dL_law_988 rfl (lv_at hl 3 rfl) ?_
  refine lv_iload_n hx hb dL_law_989 rfl (lv_at hl 0 rfl) ?_
  refine lv_iconst (v := 2) hx hb dL_law_990 (by decide) ?_
  refine lv_iadd hx hb dL_law_991 ?_
  refine va_sld (i := i + 2) hx hb hX hbl hbA hS (law_in hi hiL (d := 2) (by decide) (by decide) (by decide)) dL_law_992 ?_
  refine ti_calli (va_runV (As := [.int (xs (i + 1).toNatClampNeg), .int (xs (i + 2).toNatClampNeg)]) (rest := []) ⟨hx, hb, hml, hown, hts⟩ (t_X10_way l hT2 hy2 (iv_top _) (iv_top _) hν.1 hν.2.2.1 hU) (cwV 2 hts (good_V kw_1149 kw_1150 kw_1151 kw_5 kw_1152) rfl rfl rfl (by decide +kernel) ⟨by decide, by decide⟩) (ti_preV hK hT2 hy2 rfl rfl) rfl rfl hl.1 rfl (lv_room (Nat.le_of_ble_eq_true rfl)) dL_law_993 ⟨by decide, by decide⟩) hS (fun q h => hA2 q (pW_pA h)) (fun r2 H locs hB hS _ hk => ?_)
  obtain ⟨hT2, ir2⟩ := hB
  have hT1 := TI.frameW hT1 (fun q h1 h2 => hdis q h2 h1) hk
  refine lv_pop hx hb dL_law_996 rfl ?_
  refine lv_goto (tgt := 2019) hx hb dL_law_997 (by decide) ?_
  exact nxt ν2 H locs hT1 hT2 hν hS
set_option maxHeartbeats 8000000 in
set_option maxRecDepth 100000 in
theorem law_c24 {p : Program} {e : Env} {s : State} {m : MethodId} {below : List Frame} {meth : Method} {c : Code} (l : Launch) {b L : Nat} {xs : Nat → Int32} (hL : L ≤ 3072) (hx : p.tables.exec = Jvm.exec) (hb : c.code = code) (hr : meth.sig.returnType = ret) (hml : c.maxLocals = 4) (hown : s.vm.findClass RL = some m.cls) (hts : ∀ w ∈ wq, w.before #[Value.ref b] s = true) (hX : va_X b L xs s s.heap) (hbl : b < s.heap.size) (hlocks : meth.locks = false) {D : va_G} {c0 : Nat → ClassId} {Y1 Y2 : Nat → Option Nat} {o1 o2 : Nat} {adK adV : Nat → Nat} (hK : va_K D vwCl (tysOf c0) s) (hSO : SO (fun q : Nat => s.heap.size ≤ q) adK adV s s.heap) (hdis : ∀ q, pA Y1 q → pA Y2 q → False) (hU : uq Y2) (hy1 : Y1 o1 = some 9) (hA1 : ∀ q, pA Y1 q → s.heap.size ≤ q) (hy2 : Y2 o2 = some 10) (hA2 : ∀ q, pA Y2 q → s.heap.size ≤ q) {ν2 : Nat → Nat} {i : Int32} {H : Heap} {locs : List Loc} {ls : Array Slot} (hi : iv i 0 3066) (hiL : i.toInt + 6 ≤ (L : Int)) (hT1 : TI D vwCl (tysOf c0) (RTg (fun _ => 0)) Y1 H) (hT2 : TI D vwCl (tysOf c0) (RTg ν2) Y2 H) (hν : nuOK ν2) (hS : va_S (fun q : Nat => s.heap.size ≤ q) s.heap H locs) (hl : lv_has ls 4 [(3, .int i), (2, .ref o2), (1, .ref o1), (0, .ref b)]) (nxt : ∀ (ν2 : Nat → Nat) (H : Heap) (locs : List Loc), TI D vwCl (tysOf c0) (RTg (fun _ => 0)) Y1 H → TI D vwCl (tysOf c0) (RTg ν2) Y2 H → nuOK ν2 → va_S (fun q : Nat => s.heap.size ≤ q) s.heap H locs → W p l e room_1 s m #[Value.ref b] below meth c H locs 188 7230 (lw_Z below #[Value.ref b] s) (F0 m 2019 ls [])) : W p l e room_1 s m #[Value.ref b] below meth c H locs 188 7230 (lw_Z below #[Value.ref b] s) (F0 m 1000 ls []) := by
  have hbA : ¬ (fun q : Nat => s.heap.size ≤ q) b := Nat.not_le.mpr hbl
  refine lv_aload_n hx hb dL_law_1000 rfl (lv_at hl 2 rfl) ?_
  refine lv_aload_n hx hb dL_law_1001 rfl (lv_at hl 3 rfl) ?_
  refine lv_iload_n hx hb dL_law_1002 rfl (lv_at hl 0 rfl) ?_
  refine lv_iconst (v := 1) hx hb dL_law_1003 (by decide) ?_
  refine lv_iadd hx hb dL_law_1004 ?_
  refine va_sld (i := i + 1) hx hb hX hbl hbA hS (law_in hi hiL (d := 1) (by decide) (by decide) (by decide)) dL_law_1005 ?_
  refine lv_aload_n hx hb dL_law_1006 rfl (lv_at hl 3 rfl) ?_
  refine lv_iload_n hx hb dL_law_1007 rfl (lv_at hl 0 rfl) ?_
  refine lv_iconst (v := 2) hx hb dL_law_1008 (by decide) ?_
  refine lv_iadd hx hb dL_law_1009 ?_
  refine va_sld (i := i + 2) hx hb hX hbl hbA hS (law_in hi hiL (d := 2) (by decide) (by decide) (by decide)) dL_law_1010 ?_
  refine ti_calli (va_runV (As := [.int (xs (i + 1).toNatClampNeg), .int (xs (i + 2).toNatClampNeg)]) (rest := []) ⟨hx, hb, hml, hown, hts⟩ (t_X9_turnsTo l hT1 hy1 (iv_top _) (iv_top _)) (cwV 2 hts (good_V kw_1153 kw_1154 kw_1155 kw_2 kw_1156) rfl rfl rfl (by decide +kernel) ⟨by decide, by decide⟩) (ti_preV hK hT1 hy1 rfl rfl) rfl rfl hl.1 rfl (lv_room (Nat.le_of_ble_eq_true rfl)) dL_law_1011 ⟨by decide, by decide⟩) hS (fun q h => hA1 q (pW_pA h)) (fun r1 H locs hB hS _ hk => ?_)
  have hT1 := hB
  have hT2 := TI.frameW hT2 hdis hk
  refine lv_pop hx hb dL_law_1014 rfl ?_
  refine lv_aload_n hx hb dL_law_1015 rfl (lv_at hl 1 rfl) ?_
  refine lv_aload_n hx hb dL_law_1016 rfl (lv_at hl 3 rfl) ?_
  refine lv_iload_n hx hb dL_law_1017 rfl (lv_at hl 0 rfl) ?_
  refine lv_iconst (v := 1) hx hb dL_law_1018 (by decide) ?_
  refine lv_iadd hx hb dL_law_1019 ?_
  refine va_sld (i := i + 1) hx hb hX hbl hbA hS (law_in hi hiL (d := 1) (by decide) (by decide) (by decide)) dL_law_1020 ?_
  refine lv_aload_n hx hb dL_law_1021 rfl (lv_at hl 3 rfl) ?_
  refine lv_iload_n hx hb dL_law_1022 rfl (lv_at hl 0 rfl) ?_
  refine lv_iconst (v := 2) hx hb dL_law_1023 (by decide) ?_
  refine lv_iadd hx hb dL_law_1024 ?_
  refine va_sld (i := i + 2) hx hb hX hbl hbA hS (law_in hi hiL (d := 2) (by decide) (by decide) (by decide)) dL_law_1025 ?_
  refine ti_calli (va_runV (As := [.int (xs (i + 1).toNatClampNeg), .int (xs (i + 2).toNatClampNeg)]) (rest := []) ⟨hx, hb, hml, hown, hts⟩ (t_X10_turnsTo l hT2 hy2 (iv_top _) (iv_top _) hU) (cwV 2 hts (good_V kw_1157 kw_1158 kw_1159 kw_5 kw_1160) rfl rfl rfl (by decide +kernel) ⟨by decide, by decide⟩) (ti_preV hK hT2 hy2 rfl rfl) rfl rfl hl.1 rfl (lv_room (Nat.le_of_ble_eq_true rfl)) dL_law_1026 ⟨by decide, by decide⟩) hS (fun q h => hA2 q (pW_pA h)) (fun r2 H locs hB hS _ hk => ?_)
  have hT2 := hB
  have hT1 := TI.frameW hT1 (fun q h1 h2 => hdis q h2 h1) hk
  refine lv_pop hx hb dL_law_1029 rfl ?_
  refine lv_goto (tgt := 2019) hx hb dL_law_1030 (by decide) ?_
  exact nxt ν2 H locs hT1 hT2 hν hS
set_option maxHeartbeats 8000000 in
set_option maxRecDepth 100000 in
theorem law_c25 {p : Program} {e : Env} {s : State} {m : MethodId} {below : List Frame} {meth : Method} {c : Code} (l : Launch) {b L : Nat} {xs : Nat → Int32} (hL : L ≤ 3072) (hx : p.tables.exec = Jvm.exec) (hb : c.code = code) (hr : meth.sig.returnType = ret) (hml : c.maxLocals = 4) (hown : s.vm.findClass RL = some m.cls) (hts : ∀ w ∈ wq, w.before #[Value.ref b] s = true) (hX : va_X b L xs s s.heap) (hbl : b < s.heap.size) (hlocks : meth.locks = false) {D : va_G} {c0 : Nat → ClassId} {Y1 Y2 : Nat → Option Nat} {o1 o2 : Nat} {adK adV : Nat → Nat} (hK : va_K D vwCl (tysOf c0) s) (hSO : SO (fun q : Nat => s.heap.size ≤ q) adK adV s s.heap) (hdis : ∀ q, pA Y1 q → pA Y2 q → False) (hU : uq Y2) (hy1 : Y1 o1 = some 9) (hA1 : ∀ q, pA Y1 q → s.heap.size ≤ q) (hy2 : Y2 o2 = some 10) (hA2 : ∀ q, pA Y2 q → s.heap.size ≤ q) {ν2 : Nat → Nat} {i : Int32} {H : Heap} {locs : List Loc} {ls : Array Slot} (hi : iv i 0 3066) (hiL : i.toInt + 6 ≤ (L : Int)) (hT1 : TI D vwCl (tysOf c0) (RTg (fun _ => 0)) Y1 H) (hT2 : TI D vwCl (tysOf c0) (RTg ν2) Y2 H) (hν : nuOK ν2) (hS : va_S (fun q : Nat => s.heap.size ≤ q) s.heap H locs) (hl : lv_has ls 4 [(3, .int i), (2, .ref o2), (1, .ref o1), (0, .ref b)]) (nxt : ∀ (ν2 : Nat → Nat) (H : Heap) (locs : List Loc), TI D vwCl (tysOf c0) (RTg (fun _ => 0)) Y1 H → TI D vwCl (tysOf c0) (RTg ν2) Y2 H → nuOK ν2 → va_S (fun q : Nat => s.heap.size ≤ q) s.heap H locs → W p l e room_1 s m #[Value.ref b] below meth c H locs 188 7230 (lw_Z below #[Value.ref b] s) (F0 m 2019 ls [])) : W p l e room_1 s m #[Value.ref b] below meth c H locs 188 7230 (lw_Z below #[Value.ref b] s) (F0 m 1033 ls []) := by
  have hbA : ¬ (fun q : Nat => s.heap.size ≤ q) b := Nat.not_le.mpr hbl
  refine lv_aload_n hx hb dL_law_1033 rfl (lv_at hl 2 rfl) ?_
  refine lv_aload_n hx hb dL_law_1034 rfl (lv_at hl 3 rfl) ?_
  refine lv_iload_n hx hb dL_law_1035 rfl (lv_at hl 0 rfl) ?_
  refine lv_iconst (v := 1) hx hb dL_law_1036 (by decide) ?_
  refine lv_iadd hx hb dL_law_1037 ?_
  refine va_sld (i := i + 1) hx hb hX hbl hbA hS (law_in hi hiL (d := 1) (by decide) (by decide) (by decide)) dL_law_1038 ?_
  refine ti_calli (va_runV (As := [.int (xs (i + 1).toNatClampNeg)]) (rest := []) ⟨hx, hb, hml, hown, hts⟩ (t_X9_idle l hT1 hy1 (iv_top _)) (cwV 1 hts (good_V kw_1161 kw_1162 kw_1163 kw_2 kw_1164) rfl rfl rfl (by decide +kernel) ⟨by decide, by decide⟩) (ti_preV hK hT1 hy1 rfl rfl) rfl rfl hl.1 rfl (lv_room (Nat.le_of_ble_eq_true rfl)) dL_law_1039 ⟨by decide, by decide⟩) hS (fun q h => hA1 q (pW_pA h)) (fun r1 H locs hB hS _ hk => ?_)
  have hT1 := hB
  have hT2 := TI.frameW hT2 hdis hk
  refine lv_pop hx hb dL_law_1042 rfl ?_
  refine lv_aload_n hx hb dL_law_1043 rfl (lv_at hl 1 rfl) ?_
  refine lv_aload_n hx hb dL_law_1044 rfl (lv_at hl 3 rfl) ?_
  refine lv_iload_n hx hb dL_law_1045 rfl (lv_at hl 0 rfl) ?_
  refine lv_iconst (v := 1) hx hb dL_law_1046 (by decide) ?_
  refine lv_iadd hx hb dL_law_1047 ?_
  refine va_sld (i := i + 1) hx hb hX hbl hbA hS (law_in hi hiL (d := 1) (by decide) (by decide) (by decide)) dL_law_1048 ?_
  refine ti_calli (va_runV (As := [.int (xs (i + 1).toNatClampNeg)]) (rest := []) ⟨hx, hb, hml, hown, hts⟩ (t_X10_idle l hT2 hy2 (iv_top _) hν.1 hν.2.2.1 hU) (cwV 1 hts (good_V kw_1166 kw_1167 kw_1168 kw_5 kw_1169) rfl rfl rfl (by decide +kernel) ⟨by decide, by decide⟩) (ti_preV hK hT2 hy2 rfl rfl) rfl rfl hl.1 rfl (lv_room (Nat.le_of_ble_eq_true rfl)) dL_law_1049 ⟨by decide, by decide⟩) hS (fun q h => hA2 q (pW_pA h)) (fun r2 H locs hB hS _ hk => ?_)
  have hT2 := hB
  have hT1 := TI.frameW hT1 (fun q h1 h2 => hdis q h2 h1) hk
  refine lv_pop hx hb dL_law_1052 rfl ?_
  refine lv_goto (tgt := 2019) hx hb dL_law_1053 (by decide) ?_
  exact nxt ν2 H locs hT1 hT2 hν hS
set_option maxHeartbeats 8000000 in
set_option maxRecDepth 100000 in
theorem law_c26 {p : Program} {e : Env} {s : State} {m : MethodId} {below : List Frame} {meth : Method} {c : Code} (l : Launch) {b L : Nat} {xs : Nat → Int32} (hL : L ≤ 3072) (hx : p.tables.exec = Jvm.exec) (hb : c.code = code) (hr : meth.sig.returnType = ret) (hml : c.maxLocals = 4) (hown : s.vm.findClass RL = some m.cls) (hts : ∀ w ∈ wq, w.before #[Value.ref b] s = true) (hX : va_X b L xs s s.heap) (hbl : b < s.heap.size) (hlocks : meth.locks = false) {D : va_G} {c0 : Nat → ClassId} {Y1 Y2 : Nat → Option Nat} {o1 o2 : Nat} {adK adV : Nat → Nat} (hK : va_K D vwCl (tysOf c0) s) (hSO : SO (fun q : Nat => s.heap.size ≤ q) adK adV s s.heap) (hdis : ∀ q, pA Y1 q → pA Y2 q → False) (hU : uq Y2) (hy1 : Y1 o1 = some 9) (hA1 : ∀ q, pA Y1 q → s.heap.size ≤ q) (hy2 : Y2 o2 = some 10) (hA2 : ∀ q, pA Y2 q → s.heap.size ≤ q) {ν2 : Nat → Nat} {i : Int32} {H : Heap} {locs : List Loc} {ls : Array Slot} (hi : iv i 0 3066) (hiL : i.toInt + 6 ≤ (L : Int)) (hT1 : TI D vwCl (tysOf c0) (RTg (fun _ => 0)) Y1 H) (hT2 : TI D vwCl (tysOf c0) (RTg ν2) Y2 H) (hν : nuOK ν2) (hS : va_S (fun q : Nat => s.heap.size ≤ q) s.heap H locs) (hl : lv_has ls 4 [(3, .int i), (2, .ref o2), (1, .ref o1), (0, .ref b)]) (nxt : ∀ (ν2 : Nat → Nat) (H : Heap) (locs : List Loc), TI D vwCl (tysOf c0) (RTg (fun _ => 0)) Y1 H → TI D vwCl (tysOf c0) (RTg ν2) Y2 H → nuOK ν2 → va_S (fun q : Nat => s.heap.size ≤ q) s.heap H locs → W p l e room_1 s m #[Value.ref b] below meth c H locs 188 7230 (lw_Z below #[Value.ref b] s) (F0 m 2019 ls [])) : W p l e room_1 s m #[Value.ref b] below meth c H locs 188 7230 (lw_Z below #[Value.ref b] s) (F0 m 1056 ls []) := by
  have hbA : ¬ (fun q : Nat => s.heap.size ≤ q) b := Nat.not_le.mpr hbl
  refine lv_aload_n hx hb dL_law_1056 rfl (lv_at hl 2 rfl) ?_
  refine ti_calli (va_runV (As := []) (rest := []) ⟨hx, hb, hml, hown, hts⟩ (t_X9_spread l hT1 hy1 ) (cwV 0 hts (good_V kw_1170 kw_1171 kw_1172 kw_2 kw_1173) rfl rfl rfl (by decide +kernel) ⟨by decide, by decide⟩) (ti_preV hK hT1 hy1 rfl rfl) rfl rfl hl.1 rfl (lv_room (Nat.le_of_ble_eq_true rfl)) dL_law_1057 ⟨by decide, by decide⟩) hS (fun q h => hA1 q (pW_pA h)) (fun r1 H1 locs hB hS _ hk => ?_)
  have hH := hB
  rw [hH] at hS ⊢
  refine lv_pop hx hb dL_law_1060 rfl ?_
  refine lv_aload_n hx hb dL_law_1061 rfl (lv_at hl 1 rfl) ?_
  refine ti_calli (va_runV (As := []) (rest := []) ⟨hx, hb, hml, hown, hts⟩ (t_X10_spread l hT2 hy2 hU) (cwV 0 hts (good_V kw_1181 kw_1182 kw_1183 kw_5 kw_1184) rfl rfl rfl (by decide +kernel) ⟨by decide, by decide⟩) (ti_preV hK hT2 hy2 rfl rfl) rfl rfl hl.1 rfl (lv_room (Nat.le_of_ble_eq_true rfl)) dL_law_1062 ⟨by decide, by decide⟩) hS (fun q h => hA2 q (pW_pA h)) (fun r2 H1 locs hB hS _ hk => ?_)
  have hH := hB
  rw [hH] at hS ⊢
  refine lv_pop hx hb dL_law_1065 rfl ?_
  refine lv_goto (tgt := 2019) hx hb dL_law_1066 (by decide) ?_
  exact nxt ν2 H locs hT1 hT2 hν hS
set_option maxHeartbeats 8000000 in
set_option maxRecDepth 100000 in
theorem law_c27 {p : Program} {e : Env} {s : State} {m : MethodId} {below : List Frame} {meth : Method} {c : Code} (l : Launch) {b L : Nat} {xs : Nat → Int32} (hL : L ≤ 3072) (hx : p.tables.exec = Jvm.exec) (hb : c.code = code) (hr : meth.sig.returnType = ret) (hml : c.maxLocals = 4) (hown : s.vm.findClass RL = some m.cls) (hts : ∀ w ∈ wq, w.before #[Value.ref b] s = true) (hX : va_X b L xs s s.heap) (hbl : b < s.heap.size) (hlocks : meth.locks = false) {D : va_G} {c0 : Nat → ClassId} {Y1 Y2 : Nat → Option Nat} {o1 o2 : Nat} {adK adV : Nat → Nat} (hK : va_K D vwCl (tysOf c0) s) (hSO : SO (fun q : Nat => s.heap.size ≤ q) adK adV s s.heap) (hdis : ∀ q, pA Y1 q → pA Y2 q → False) (hU : uq Y2) (hy1 : Y1 o1 = some 9) (hA1 : ∀ q, pA Y1 q → s.heap.size ≤ q) (hy2 : Y2 o2 = some 10) (hA2 : ∀ q, pA Y2 q → s.heap.size ≤ q) {ν2 : Nat → Nat} {i : Int32} {H : Heap} {locs : List Loc} {ls : Array Slot} (hi : iv i 0 3066) (hiL : i.toInt + 6 ≤ (L : Int)) (hT1 : TI D vwCl (tysOf c0) (RTg (fun _ => 0)) Y1 H) (hT2 : TI D vwCl (tysOf c0) (RTg ν2) Y2 H) (hν : nuOK ν2) (hS : va_S (fun q : Nat => s.heap.size ≤ q) s.heap H locs) (hl : lv_has ls 4 [(3, .int i), (2, .ref o2), (1, .ref o1), (0, .ref b)]) (nxt : ∀ (ν2 : Nat → Nat) (H : Heap) (locs : List Loc), TI D vwCl (tysOf c0) (RTg (fun _ => 0)) Y1 H → TI D vwCl (tysOf c0) (RTg ν2) Y2 H → nuOK ν2 → va_S (fun q : Nat => s.heap.size ≤ q) s.heap H locs → W p l e room_1 s m #[Value.ref b] below meth c H locs 188 7230 (lw_Z below #[Value.ref b] s) (F0 m 2019 ls [])) : W p l e room_1 s m #[Value.ref b] below meth c H locs 188 7230 (lw_Z below #[Value.ref b] s) (F0 m 1069 ls []) := by
  have hbA : ¬ (fun q : Nat => s.heap.size ≤ q) b := Nat.not_le.mpr hbl
  refine lv_aload_n hx hb dL_law_1069 rfl (lv_at hl 2 rfl) ?_
  refine lv_aload_n hx hb dL_law_1070 rfl (lv_at hl 3 rfl) ?_
  refine lv_iload_n hx hb dL_law_1071 rfl (lv_at hl 0 rfl) ?_
  refine lv_iconst (v := 1) hx hb dL_law_1072 (by decide) ?_
  refine lv_iadd hx hb dL_law_1073 ?_
  refine va_sld (i := i + 1) hx hb hX hbl hbA hS (law_in hi hiL (d := 1) (by decide) (by decide) (by decide)) dL_law_1074 ?_
  refine lv_aload_n hx hb dL_law_1075 rfl (lv_at hl 3 rfl) ?_
  refine lv_iload_n hx hb dL_law_1076 rfl (lv_at hl 0 rfl) ?_
  refine lv_iconst (v := 2) hx hb dL_law_1077 (by decide) ?_
  refine lv_iadd hx hb dL_law_1078 ?_
  refine va_sld (i := i + 2) hx hb hX hbl hbA hS (law_in hi hiL (d := 2) (by decide) (by decide) (by decide)) dL_law_1079 ?_
  refine ti_calli (va_runV (As := [.int (xs (i + 1).toNatClampNeg), .int (xs (i + 2).toNatClampNeg)]) (rest := []) ⟨hx, hb, hml, hown, hts⟩ (t_X9_beside l hT1 hy1 (iv_top _) (iv_top _)) (cwV 2 hts (good_V kw_1190 kw_1191 kw_1192 kw_2 kw_1193) rfl rfl rfl (by decide +kernel) ⟨by decide, by decide⟩) (ti_preV hK hT1 hy1 rfl rfl) rfl rfl hl.1 rfl (lv_room (Nat.le_of_ble_eq_true rfl)) dL_law_1080 ⟨by decide, by decide⟩) hS (fun q h => hA1 q (pW_pA h)) (fun r1 H locs hB hS _ hk => ?_)
  have hT1 := hB
  have hT2 := TI.frameW hT2 hdis hk
  refine lv_pop hx hb dL_law_1083 rfl ?_
  refine lv_aload_n hx hb dL_law_1084 rfl (lv_at hl 1 rfl) ?_
  refine lv_aload_n hx hb dL_law_1085 rfl (lv_at hl 3 rfl) ?_
  refine lv_iload_n hx hb dL_law_1086 rfl (lv_at hl 0 rfl) ?_
  refine lv_iconst (v := 1) hx hb dL_law_1087 (by decide) ?_
  refine lv_iadd hx hb dL_law_1088 ?_
  refine va_sld (i := i + 1) hx hb hX hbl hbA hS (law_in hi hiL (d := 1) (by decide) (by decide) (by decide)) dL_law_1089 ?_
  refine lv_aload_n hx hb dL_law_1090 rfl (lv_at hl 3 rfl) ?_
  refine lv_iload_n hx hb dL_law_1091 rfl (lv_at hl 0 rfl) ?_
  refine lv_iconst (v := 2) hx hb dL_law_1092 (by decide) ?_
  refine lv_iadd hx hb dL_law_1093 ?_
  refine va_sld (i := i + 2) hx hb hX hbl hbA hS (law_in hi hiL (d := 2) (by decide) (by decide) (by decide)) dL_law_1094 ?_
  refine ti_calli (va_runV (As := [.int (xs (i + 1).toNatClampNeg), .int (xs (i + 2).toNatClampNeg)]) (rest := []) ⟨hx, hb, hml, hown, hts⟩ (t_X10_beside l hT2 hy2 (iv_top _) (iv_top _) hν.1 hν.2.2.1 hU) (cwV 2 hts (good_V kw_1198 kw_1199 kw_1200 kw_5 kw_1201) rfl rfl rfl (by decide +kernel) ⟨by decide, by decide⟩) (ti_preV hK hT2 hy2 rfl rfl) rfl rfl hl.1 rfl (lv_room (Nat.le_of_ble_eq_true rfl)) dL_law_1095 ⟨by decide, by decide⟩) hS (fun q h => hA2 q (pW_pA h)) (fun r2 H locs hB hS _ hk => ?_)
  have hT2 := hB
  have hT1 := TI.frameW hT1 (fun q h1 h2 => hdis q h2 h1) hk
  refine lv_pop hx hb dL_law_1098 rfl ?_
  refine lv_goto (tgt := 2019) hx hb dL_law_1099 (by decide) ?_
  exact nxt ν2 H locs hT1 hT2 hν hS
set_option maxHeartbeats 8000000 in
set_option maxRecDepth 100000 in
theorem law_c28 {p : Program} {e : Env} {s : State} {m : MethodId} {below : List Frame} {meth : Method} {c : Code} (l : Launch) {b L : Nat} {xs : Nat → Int32} (hL : L ≤ 3072) (hx : p.tables.exec = Jvm.exec) (hb : c.code = code) (hr : meth.sig.returnType = ret) (hml : c.maxLocals = 4) (hown : s.vm.findClass RL = some m.cls) (hts : ∀ w ∈ wq, w.before #[Value.ref b] s = true) (hX : va_X b L xs s s.heap) (hbl : b < s.heap.size) (hlocks : meth.locks = false) {D : va_G} {c0 : Nat → ClassId} {Y1 Y2 : Nat → Option Nat} {o1 o2 : Nat} {adK adV : Nat → Nat} (hK : va_K D vwCl (tysOf c0) s) (hSO : SO (fun q : Nat => s.heap.size ≤ q) adK adV s s.heap) (hdis : ∀ q, pA Y1 q → pA Y2 q → False) (hU : uq Y2) (hy1 : Y1 o1 = some 9) (hA1 : ∀ q, pA Y1 q → s.heap.size ≤ q) (hy2 : Y2 o2 = some 10) (hA2 : ∀ q, pA Y2 q → s.heap.size ≤ q) {ν2 : Nat → Nat} {i : Int32} {H : Heap} {locs : List Loc} {ls : Array Slot} (hi : iv i 0 3066) (hiL : i.toInt + 6 ≤ (L : Int)) (hT1 : TI D vwCl (tysOf c0) (RTg (fun _ => 0)) Y1 H) (hT2 : TI D vwCl (tysOf c0) (RTg ν2) Y2 H) (hν : nuOK ν2) (hS : va_S (fun q : Nat => s.heap.size ≤ q) s.heap H locs) (hl : lv_has ls 4 [(3, .int i), (2, .ref o2), (1, .ref o1), (0, .ref b)]) (nxt : ∀ (ν2 : Nat → Nat) (H : Heap) (locs : List Loc), TI D vwCl (tysOf c0) (RTg (fun _ => 0)) Y1 H → TI D vwCl (tysOf c0) (RTg ν2) Y2 H → nuOK ν2 → va_S (fun q : Nat => s.heap.size ≤ q) s.heap H locs → W p l e room_1 s m #[Value.ref b] below meth c H locs 188 7230 (lw_Z below #[Value.ref b] s) (F0 m 2019 ls [])) : W p l e room_1 s m #[Value.ref b] below meth c H locs 188 7230 (lw_Z below #[Value.ref b] s) (F0 m 1102 ls []) := by
  have hbA : ¬ (fun q : Nat => s.heap.size ≤ q) b := Nat.not_le.mpr hbl
  refine lv_aload_n hx hb dL_law_1102 rfl (lv_at hl 2 rfl) ?_
  refine lv_aload_n hx hb dL_law_1103 rfl (lv_at hl 3 rfl) ?_
  refine lv_iload_n hx hb dL_law_1104 rfl (lv_at hl 0 rfl) ?_
  refine lv_iconst (v := 1) hx hb dL_law_1105 (by decide) ?_
  refine lv_iadd hx hb dL_law_1106 ?_
  refine va_sld (i := i + 1) hx hb hX hbl hbA hS (law_in hi hiL (d := 1) (by decide) (by decide) (by decide)) dL_law_1107 ?_
  refine lv_aload_n hx hb dL_law_1108 rfl (lv_at hl 3 rfl) ?_
  refine lv_iload_n hx hb dL_law_1109 rfl (lv_at hl 0 rfl) ?_
  refine lv_iconst (v := 2) hx hb dL_law_1110 (by decide) ?_
  refine lv_iadd hx hb dL_law_1111 ?_
  refine va_sld (i := i + 2) hx hb hX hbl hbA hS (law_in hi hiL (d := 2) (by decide) (by decide) (by decide)) dL_law_1112 ?_
  refine lv_aload_n hx hb dL_law_1113 rfl (lv_at hl 3 rfl) ?_
  refine lv_iload_n hx hb dL_law_1114 rfl (lv_at hl 0 rfl) ?_
  refine lv_iconst (v := 3) hx hb dL_law_1115 (by decide) ?_
  refine lv_iadd hx hb dL_law_1116 ?_
  refine va_sld (i := i + 3) hx hb hX hbl hbA hS (law_in hi hiL (d := 3) (by decide) (by decide) (by decide)) dL_law_1117 ?_
  refine lv_aload_n hx hb dL_law_1118 rfl (lv_at hl 3 rfl) ?_
  refine lv_iload_n hx hb dL_law_1119 rfl (lv_at hl 0 rfl) ?_
  refine lv_iconst (v := 4) hx hb dL_law_1120 (by decide) ?_
  refine lv_iadd hx hb dL_law_1121 ?_
  refine va_sld (i := i + 4) hx hb hX hbl hbA hS (law_in hi hiL (d := 4) (by decide) (by decide) (by decide)) dL_law_1122 ?_
  refine lv_if_eq (tgt := 1130) hx hb dL_law_1123 (by decide) (fun _ => ?_) (fun _ => ?_)
  · skip
    refine lv_iconst (v := 0) hx hb dL_law_1130 (by decide) ?_
    refine ti_calli (va_runV (As := [.int (xs (i + 1).toNatClampNeg), .int (xs (i + 2).toNatClampNeg), .int (xs (i + 3).toNatClampNeg), .int 0]) (rest := []) ⟨hx, hb, hml, hown, hts⟩ (t_X9_law l hT1 hy1 (iv_top _) (iv_top _) (iv_top _) (iv_w (iv_c (x := (0 : Int32)) (k := 0) (by decide)) (by decide))) (cwV 4 hts (good_V kw_1206 kw_1207 kw_1208 kw_2 kw_1209) rfl rfl rfl (by decide +kernel) ⟨by decide, by decide⟩) (ti_preV hK hT1 hy1 rfl rfl) rfl rfl hl.1 rfl (lv_room (Nat.le_of_ble_eq_true rfl)) dL_law_1131 ⟨by decide, by decide⟩) hS (fun q h => hA1 q (pW_pA h)) (fun r1 H locs hB hS _ hk => ?_)
    obtain ⟨hT1, ir1⟩ := hB
    have hT2 := TI.frameW hT2 hdis hk
    refine lv_pop hx hb dL_law_1134 rfl ?_
    refine lv_aload_n hx hb dL_law_1135 rfl (lv_at hl 1 rfl) ?_
    refine lv_aload_n hx hb dL_law_1136 rfl (lv_at hl 3 rfl) ?_
    refine lv_iload_n hx hb dL_law_1137 rfl (lv_at hl 0 rfl) ?_
    refine lv_iconst (v := 1) hx hb dL_law_1138 (by decide) ?_
    refine lv_iadd hx hb dL_law_1139 ?_
    refine va_sld (i := i + 1) hx hb hX hbl hbA hS (law_in hi hiL (d := 1) (by decide) (by decide) (by decide)) dL_law_1140 ?_
    refine lv_aload_n hx hb dL_law_1141 rfl (lv_at hl 3 rfl) ?_
    refine lv_iload_n hx hb dL_law_1142 rfl (lv_at hl 0 rfl) ?_
    refine lv_iconst (v := 2) hx hb dL_law_1143 (by decide) ?_
    refine lv_iadd hx hb dL_law_1144 ?_
    refine va_sld (i := i + 2) hx hb hX hbl hbA hS (law_in hi hiL (d := 2) (by decide) (by decide) (by decide)) dL_law_1145 ?_
    refine lv_aload_n hx hb dL_law_1146 rfl (lv_at hl 3 rfl) ?_
    refine lv_iload_n hx hb dL_law_1147 rfl (lv_at hl 0 rfl) ?_
    refine lv_iconst (v := 3) hx hb dL_law_1148 (by decide) ?_
    refine lv_iadd hx hb dL_law_1149 ?_
    refine va_sld (i := i + 3) hx hb hX hbl hbA hS (law_in hi hiL (d := 3) (by decide) (by decide) (by decide)) dL_law_1150 ?_
    refine lv_aload_n hx hb dL_law_1151 rfl (lv_at hl 3 rfl) ?_
    refine lv_iload_n hx hb dL_law_1152 rfl (lv_at hl 0 rfl) ?_
    refine lv_iconst (v := 4) hx hb dL_law_1153 (by decide) ?_
    refine lv_iadd hx hb dL_law_1154 ?_
    refine va_sld (i := i + 4) hx hb hX hbl hbA hS (law_in hi hiL (d := 4) (by decide) (by decide) (by decide)) dL_law_1155 ?_
    refine lv_if_eq (tgt := 1163) hx hb dL_law_1156 (by decide) (fun _ => ?_) (fun _ => ?_)
    · skip
      refine lv_iconst (v := 0) hx hb dL_law_1163 (by decide) ?_
      refine ti_calli (va_runV (As := [.int (xs (i + 1).toNatClampNeg), .int (xs (i + 2).toNatClampNeg), .int (xs (i + 3).toNatClampNeg), .int 0]) (rest := []) ⟨hx, hb, hml, hown, hts⟩ (t_X10_law l hT2 hy2 (iv_top _) (iv_top _) (iv_top _) (iv_w (iv_c (x := (0 : Int32)) (k := 0) (by decide)) (by decide)) hU) (cwV 4 hts (good_V kw_1214 kw_1215 kw_1216 kw_5 kw_1217) rfl rfl rfl (by decide +kernel) ⟨by decide, by decide⟩) (ti_preV hK hT2 hy2 rfl rfl) rfl rfl hl.1 rfl (lv_room (Nat.le_of_ble_eq_true rfl)) dL_law_1164 ⟨by decide, by decide⟩) hS (fun q h => hA2 q (pW_pA h)) (fun r2 H locs hB hS _ hk => ?_)
      obtain ⟨hT2, ir2⟩ := hB
      have hT1 := TI.frameW hT1 (fun q h1 h2 => hdis q h2 h1) hk
      refine lv_pop hx hb dL_law_1167 rfl ?_
      refine lv_goto (tgt := 2019) hx hb dL_law_1168 (by decide) ?_
      exact nxt ν2 H locs hT1 hT2 hν hS
    · skip
      refine lv_iconst (v := 1) hx hb dL_law_1159 (by decide) ?_
      refine lv_goto (tgt := 1164) hx hb dL_law_1160 (by decide) ?_
      refine ti_calli (va_runV (As := [.int (xs (i + 1).toNatClampNeg), .int (xs (i + 2).toNatClampNeg), .int (xs (i + 3).toNatClampNeg), .int 1]) (rest := []) ⟨hx, hb, hml, hown, hts⟩ (t_X10_law l hT2 hy2 (iv_top _) (iv_top _) (iv_top _) (iv_w (iv_c (x := (1 : Int32)) (k := 1) (by decide)) (by decide)) hU) (cwV 4 hts (good_V kw_1214 kw_1215 kw_1216 kw_5 kw_1217) rfl rfl rfl (by decide +kernel) ⟨by decide, by decide⟩) (ti_preV hK hT2 hy2 rfl rfl) rfl rfl hl.1 rfl (lv_room (Nat.le_of_ble_eq_true rfl)) dL_law_1164 ⟨by decide, by decide⟩) hS (fun q h => hA2 q (pW_pA h)) (fun r2 H locs hB hS _ hk => ?_)
      obtain ⟨hT2, ir2⟩ := hB
      have hT1 := TI.frameW hT1 (fun q h1 h2 => hdis q h2 h1) hk
      refine lv_pop hx hb dL_law_1167 rfl ?_
      refine lv_goto (tgt := 2019) hx hb dL_law_1168 (by decide) ?_
      exact nxt ν2 H locs hT1 hT2 hν hS
  · skip
    refine lv_iconst (v := 1) hx hb dL_law_1126 (by decide) ?_
    refine lv_goto (tgt := 1131) hx hb dL_law_1127 (by decide) ?_
    refine ti_calli (va_runV (As := [.int (xs (i + 1).toNatClampNeg), .int (xs (i + 2).toNatClampNeg), .int (xs (i + 3).toNatClampNeg), .int 1]) (rest := []) ⟨hx, hb, hml, hown, hts⟩ (t_X9_law l hT1 hy1 (iv_top _) (iv_top _) (iv_top _) (iv_w (iv_c (x := (1 : Int32)) (k := 1) (by decide)) (by decide))) (cwV 4 hts (good_V kw_1206 kw_1207 kw_1208 kw_2 kw_1209) rfl rfl rfl (by decide +kernel) ⟨by decide, by decide⟩) (ti_preV hK hT1 hy1 rfl rfl) rfl rfl hl.1 rfl (lv_room (Nat.le_of_ble_eq_true rfl)) dL_law_1131 ⟨by decide, by decide⟩) hS (fun q h => hA1 q (pW_pA h)) (fun r1 H locs hB hS _ hk => ?_)
    obtain ⟨hT1, ir1⟩ := hB
    have hT2 := TI.frameW hT2 hdis hk
    refine lv_pop hx hb dL_law_1134 rfl ?_
    refine lv_aload_n hx hb dL_law_1135 rfl (lv_at hl 1 rfl) ?_
    refine lv_aload_n hx hb dL_law_1136 rfl (lv_at hl 3 rfl) ?_
    refine lv_iload_n hx hb dL_law_1137 rfl (lv_at hl 0 rfl) ?_
    refine lv_iconst (v := 1) hx hb dL_law_1138 (by decide) ?_
    refine lv_iadd hx hb dL_law_1139 ?_
    refine va_sld (i := i + 1) hx hb hX hbl hbA hS (law_in hi hiL (d := 1) (by decide) (by decide) (by decide)) dL_law_1140 ?_
    refine lv_aload_n hx hb dL_law_1141 rfl (lv_at hl 3 rfl) ?_
    refine lv_iload_n hx hb dL_law_1142 rfl (lv_at hl 0 rfl) ?_
    refine lv_iconst (v := 2) hx hb dL_law_1143 (by decide) ?_
    refine lv_iadd hx hb dL_law_1144 ?_
    refine va_sld (i := i + 2) hx hb hX hbl hbA hS (law_in hi hiL (d := 2) (by decide) (by decide) (by decide)) dL_law_1145 ?_
    refine lv_aload_n hx hb dL_law_1146 rfl (lv_at hl 3 rfl) ?_
    refine lv_iload_n hx hb dL_law_1147 rfl (lv_at hl 0 rfl) ?_
    refine lv_iconst (v := 3) hx hb dL_law_1148 (by decide) ?_
    refine lv_iadd hx hb dL_law_1149 ?_
    refine va_sld (i := i + 3) hx hb hX hbl hbA hS (law_in hi hiL (d := 3) (by decide) (by decide) (by decide)) dL_law_1150 ?_
    refine lv_aload_n hx hb dL_law_1151 rfl (lv_at hl 3 rfl) ?_
    refine lv_iload_n hx hb dL_law_1152 rfl (lv_at hl 0 rfl) ?_
    refine lv_iconst (v := 4) hx hb dL_law_1153 (by decide) ?_
    refine lv_iadd hx hb dL_law_1154 ?_
    refine va_sld (i := i + 4) hx hb hX hbl hbA hS (law_in hi hiL (d := 4) (by decide) (by decide) (by decide)) dL_law_1155 ?_
    refine lv_if_eq (tgt := 1163) hx hb dL_law_1156 (by decide) (fun _ => ?_) (fun _ => ?_)
    · skip
      refine lv_iconst (v := 0) hx hb dL_law_1163 (by decide) ?_
      refine ti_calli (va_runV (As := [.int (xs (i + 1).toNatClampNeg), .int (xs (i + 2).toNatClampNeg), .int (xs (i + 3).toNatClampNeg), .int 0]) (rest := []) ⟨hx, hb, hml, hown, hts⟩ (t_X10_law l hT2 hy2 (iv_top _) (iv_top _) (iv_top _) (iv_w (iv_c (x := (0 : Int32)) (k := 0) (by decide)) (by decide)) hU) (cwV 4 hts (good_V kw_1214 kw_1215 kw_1216 kw_5 kw_1217) rfl rfl rfl (by decide +kernel) ⟨by decide, by decide⟩) (ti_preV hK hT2 hy2 rfl rfl) rfl rfl hl.1 rfl (lv_room (Nat.le_of_ble_eq_true rfl)) dL_law_1164 ⟨by decide, by decide⟩) hS (fun q h => hA2 q (pW_pA h)) (fun r2 H locs hB hS _ hk => ?_)
      obtain ⟨hT2, ir2⟩ := hB
      have hT1 := TI.frameW hT1 (fun q h1 h2 => hdis q h2 h1) hk
      refine lv_pop hx hb dL_law_1167 rfl ?_
      refine lv_goto (tgt := 2019) hx hb dL_law_1168 (by decide) ?_
      exact nxt ν2 H locs hT1 hT2 hν hS
    · skip
      refine lv_iconst (v := 1) hx hb dL_law_1159 (by decide) ?_
      refine lv_goto (tgt := 1164) hx hb dL_law_1160 (by decide) ?_
      refine ti_calli (va_runV (As := [.int (xs (i + 1).toNatClampNeg), .int (xs (i + 2).toNatClampNeg), .int (xs (i + 3).toNatClampNeg), .int 1]) (rest := []) ⟨hx, hb, hml, hown, hts⟩ (t_X10_law l hT2 hy2 (iv_top _) (iv_top _) (iv_top _) (iv_w (iv_c (x := (1 : Int32)) (k := 1) (by decide)) (by decide)) hU) (cwV 4 hts (good_V kw_1214 kw_1215 kw_1216 kw_5 kw_1217) rfl rfl rfl (by decide +kernel) ⟨by decide, by decide⟩) (ti_preV hK hT2 hy2 rfl rfl) rfl rfl hl.1 rfl (lv_room (Nat.le_of_ble_eq_true rfl)) dL_law_1164 ⟨by decide, by decide⟩) hS (fun q h => hA2 q (pW_pA h)) (fun r2 H locs hB hS _ hk => ?_)
      obtain ⟨hT2, ir2⟩ := hB
      have hT1 := TI.frameW hT1 (fun q h1 h2 => hdis q h2 h1) hk
      refine lv_pop hx hb dL_law_1167 rfl ?_
      refine lv_goto (tgt := 2019) hx hb dL_law_1168 (by decide) ?_
      exact nxt ν2 H locs hT1 hT2 hν hS
set_option maxHeartbeats 8000000 in
set_option maxRecDepth 100000 in
theorem law_c29 {p : Program} {e : Env} {s : State} {m : MethodId} {below : List Frame} {meth : Method} {c : Code} (l : Launch) {b L : Nat} {xs : Nat → Int32} (hL : L ≤ 3072) (hx : p.tables.exec = Jvm.exec) (hb : c.code = code) (hr : meth.sig.returnType = ret) (hml : c.maxLocals = 4) (hown : s.vm.findClass RL = some m.cls) (hts : ∀ w ∈ wq, w.before #[Value.ref b] s = true) (hX : va_X b L xs s s.heap) (hbl : b < s.heap.size) (hlocks : meth.locks = false) {D : va_G} {c0 : Nat → ClassId} {Y1 Y2 : Nat → Option Nat} {o1 o2 : Nat} {adK adV : Nat → Nat} (hK : va_K D vwCl (tysOf c0) s) (hSO : SO (fun q : Nat => s.heap.size ≤ q) adK adV s s.heap) (hdis : ∀ q, pA Y1 q → pA Y2 q → False) (hU : uq Y2) (hy1 : Y1 o1 = some 9) (hA1 : ∀ q, pA Y1 q → s.heap.size ≤ q) (hy2 : Y2 o2 = some 10) (hA2 : ∀ q, pA Y2 q → s.heap.size ≤ q) {ν2 : Nat → Nat} {i : Int32} {H : Heap} {locs : List Loc} {ls : Array Slot} (hi : iv i 0 3066) (hiL : i.toInt + 6 ≤ (L : Int)) (hT1 : TI D vwCl (tysOf c0) (RTg (fun _ => 0)) Y1 H) (hT2 : TI D vwCl (tysOf c0) (RTg ν2) Y2 H) (hν : nuOK ν2) (hS : va_S (fun q : Nat => s.heap.size ≤ q) s.heap H locs) (hl : lv_has ls 4 [(3, .int i), (2, .ref o2), (1, .ref o1), (0, .ref b)]) (nxt : ∀ (ν2 : Nat → Nat) (H : Heap) (locs : List Loc), TI D vwCl (tysOf c0) (RTg (fun _ => 0)) Y1 H → TI D vwCl (tysOf c0) (RTg ν2) Y2 H → nuOK ν2 → va_S (fun q : Nat => s.heap.size ≤ q) s.heap H locs → W p l e room_1 s m #[Value.ref b] below meth c H locs 188 7230 (lw_Z below #[Value.ref b] s) (F0 m 2019 ls [])) : W p l e room_1 s m #[Value.ref b] below meth c H locs 188 7230 (lw_Z below #[Value.ref b] s) (F0 m 1171 ls []) := by
  have hbA : ¬ (fun q : Nat => s.heap.size ≤ q) b := Nat.not_le.mpr hbl
  refine lv_aload_n hx hb dL_law_1171 rfl (lv_at hl 2 rfl) ?_
  refine lv_aload_n hx hb dL_law_1172 rfl (lv_at hl 3 rfl) ?_
  refine lv_iload_n hx hb dL_law_1173 rfl (lv_at hl 0 rfl) ?_
  refine lv_iconst (v := 1) hx hb dL_law_1174 (by decide) ?_
  refine lv_iadd hx hb dL_law_1175 ?_
  refine va_sld (i := i + 1) hx hb hX hbl hbA hS (law_in hi hiL (d := 1) (by decide) (by decide) (by decide)) dL_law_1176 ?_
  refine ti_calli (va_runV (As := [.int (xs (i + 1).toNatClampNeg)]) (rest := []) ⟨hx, hb, hml, hown, hts⟩ (t_X9_laws l hT1 hy1 (iv_top _)) (cwV 1 hts (good_V kw_1219 kw_1220 kw_1221 kw_2 kw_1222) rfl rfl rfl (by decide +kernel) ⟨by decide, by decide⟩) (ti_preV hK hT1 hy1 rfl rfl) rfl rfl hl.1 rfl (lv_room (Nat.le_of_ble_eq_true rfl)) dL_law_1177 ⟨by decide, by decide⟩) hS (fun q h => hA1 q (pW_pA h)) (fun r1 H locs hB hS _ hk => ?_)
  obtain ⟨hT1, ir1⟩ := hB
  have hT2 := TI.frameW hT2 hdis hk
  refine lv_pop hx hb dL_law_1180 rfl ?_
  refine lv_aload_n hx hb dL_law_1181 rfl (lv_at hl 1 rfl) ?_
  refine lv_aload_n hx hb dL_law_1182 rfl (lv_at hl 3 rfl) ?_
  refine lv_iload_n hx hb dL_law_1183 rfl (lv_at hl 0 rfl) ?_
  refine lv_iconst (v := 1) hx hb dL_law_1184 (by decide) ?_
  refine lv_iadd hx hb dL_law_1185 ?_
  refine va_sld (i := i + 1) hx hb hX hbl hbA hS (law_in hi hiL (d := 1) (by decide) (by decide) (by decide)) dL_law_1186 ?_
  refine ti_calli (va_runV (As := [.int (xs (i + 1).toNatClampNeg)]) (rest := []) ⟨hx, hb, hml, hown, hts⟩ (t_X10_laws l hT2 hy2 (iv_top _) hν.1 hν.2.2.1 hU) (cwV 1 hts (good_V kw_1227 kw_1228 kw_1229 kw_5 kw_1230) rfl rfl rfl (by decide +kernel) ⟨by decide, by decide⟩) (ti_preV hK hT2 hy2 rfl rfl) rfl rfl hl.1 rfl (lv_room (Nat.le_of_ble_eq_true rfl)) dL_law_1187 ⟨by decide, by decide⟩) hS (fun q h => hA2 q (pW_pA h)) (fun r2 H locs hB hS _ hk => ?_)
  obtain ⟨hT2, ir2⟩ := hB
  have hT1 := TI.frameW hT1 (fun q h1 h2 => hdis q h2 h1) hk
  refine lv_pop hx hb dL_law_1190 rfl ?_
  refine lv_goto (tgt := 2019) hx hb dL_law_1191 (by decide) ?_
  exact nxt ν2 H locs hT1 hT2 hν hS
set_option maxHeartbeats 8000000 in
set_option maxRecDepth 100000 in
theorem law_c30 {p : Program} {e : Env} {s : State} {m : MethodId} {below : List Frame} {meth : Method} {c : Code} (l : Launch) {b L : Nat} {xs : Nat → Int32} (hL : L ≤ 3072) (hx : p.tables.exec = Jvm.exec) (hb : c.code = code) (hr : meth.sig.returnType = ret) (hml : c.maxLocals = 4) (hown : s.vm.findClass RL = some m.cls) (hts : ∀ w ∈ wq, w.before #[Value.ref b] s = true) (hX : va_X b L xs s s.heap) (hbl : b < s.heap.size) (hlocks : meth.locks = false) {D : va_G} {c0 : Nat → ClassId} {Y1 Y2 : Nat → Option Nat} {o1 o2 : Nat} {adK adV : Nat → Nat} (hK : va_K D vwCl (tysOf c0) s) (hSO : SO (fun q : Nat => s.heap.size ≤ q) adK adV s s.heap) (hdis : ∀ q, pA Y1 q → pA Y2 q → False) (hU : uq Y2) (hy1 : Y1 o1 = some 9) (hA1 : ∀ q, pA Y1 q → s.heap.size ≤ q) (hy2 : Y2 o2 = some 10) (hA2 : ∀ q, pA Y2 q → s.heap.size ≤ q) {ν2 : Nat → Nat} {i : Int32} {H : Heap} {locs : List Loc} {ls : Array Slot} (hi : iv i 0 3066) (hiL : i.toInt + 6 ≤ (L : Int)) (hT1 : TI D vwCl (tysOf c0) (RTg (fun _ => 0)) Y1 H) (hT2 : TI D vwCl (tysOf c0) (RTg ν2) Y2 H) (hν : nuOK ν2) (hS : va_S (fun q : Nat => s.heap.size ≤ q) s.heap H locs) (hl : lv_has ls 4 [(3, .int i), (2, .ref o2), (1, .ref o1), (0, .ref b)]) (nxt : ∀ (ν2 : Nat → Nat) (H : Heap) (locs : List Loc), TI D vwCl (tysOf c0) (RTg (fun _ => 0)) Y1 H → TI D vwCl (tysOf c0) (RTg ν2) Y2 H → nuOK ν2 → va_S (fun q : Nat => s.heap.size ≤ q) s.heap H locs → W p l e room_1 s m #[Value.ref b] below meth c H locs 188 7230 (lw_Z below #[Value.ref b] s) (F0 m 2019 ls [])) : W p l e room_1 s m #[Value.ref b] below meth c H locs 188 7230 (lw_Z below #[Value.ref b] s) (F0 m 1194 ls []) := by
  have hbA : ¬ (fun q : Nat => s.heap.size ≤ q) b := Nat.not_le.mpr hbl
  refine lv_aload_n hx hb dL_law_1194 rfl (lv_at hl 2 rfl) ?_
  refine lv_aload_n hx hb dL_law_1195 rfl (lv_at hl 3 rfl) ?_
  refine lv_iload_n hx hb dL_law_1196 rfl (lv_at hl 0 rfl) ?_
  refine lv_iconst (v := 1) hx hb dL_law_1197 (by decide) ?_
  refine lv_iadd hx hb dL_law_1198 ?_
  refine va_sld (i := i + 1) hx hb hX hbl hbA hS (law_in hi hiL (d := 1) (by decide) (by decide) (by decide)) dL_law_1199 ?_
  refine lv_aload_n hx hb dL_law_1200 rfl (lv_at hl 3 rfl) ?_
  refine lv_iload_n hx hb dL_law_1201 rfl (lv_at hl 0 rfl) ?_
  refine lv_iconst (v := 2) hx hb dL_law_1202 (by decide) ?_
  refine lv_iadd hx hb dL_law_1203 ?_
  refine va_sld (i := i + 2) hx hb hX hbl hbA hS (law_in hi hiL (d := 2) (by decide) (by decide) (by decide)) dL_law_1204 ?_
  refine ti_calli (va_runV (As := [.int (xs (i + 1).toNatClampNeg), .int (xs (i + 2).toNatClampNeg)]) (rest := []) ⟨hx, hb, hml, hown, hts⟩ (t_X9_leaves l hT1 hy1 (iv_top _) (iv_top _)) (cwV 2 hts (good_V kw_1231 kw_1232 kw_1233 kw_2 kw_1234) rfl rfl rfl (by decide +kernel) ⟨by decide, by decide⟩) (ti_preV hK hT1 hy1 rfl rfl) rfl rfl hl.1 rfl (lv_room (Nat.le_of_ble_eq_true rfl)) dL_law_1205 ⟨by decide, by decide⟩) hS (fun q h => hA1 q (pW_pA h)) (fun r1 H locs hB hS _ hk => ?_)
  obtain ⟨hT1, ir1⟩ := hB
  have hT2 := TI.frameW hT2 hdis hk
  refine lv_pop hx hb dL_law_1208 rfl ?_
  refine lv_aload_n hx hb dL_law_1209 rfl (lv_at hl 1 rfl) ?_
  refine lv_aload_n hx hb dL_law_1210 rfl (lv_at hl 3 rfl) ?_
  refine lv_iload_n hx hb dL_law_1211 rfl (lv_at hl 0 rfl) ?_
  refine lv_iconst (v := 1) hx hb dL_law_1212 (by decide) ?_
  refine lv_iadd hx hb dL_law_1213 ?_
  refine va_sld (i := i + 1) hx hb hX hbl hbA hS (law_in hi hiL (d := 1) (by decide) (by decide) (by decide)) dL_law_1214 ?_
  refine lv_aload_n hx hb dL_law_1215 rfl (lv_at hl 3 rfl) ?_
  refine lv_iload_n hx hb dL_law_1216 rfl (lv_at hl 0 rfl) ?_
  refine lv_iconst (v := 2) hx hb dL_law_1217 (by decide) ?_
  refine lv_iadd hx hb dL_law_1218 ?_
  refine va_sld (i := i + 2) hx hb hX hbl hbA hS (law_in hi hiL (d := 2) (by decide) (by decide) (by decide)) dL_law_1219 ?_
  refine ti_calli (va_runV (As := [.int (xs (i + 1).toNatClampNeg), .int (xs (i + 2).toNatClampNeg)]) (rest := []) ⟨hx, hb, hml, hown, hts⟩ (t_X10_leaves l hT2 hy2 (iv_top _) (iv_top _) hν.1 hν.2.2.1 hU) (cwV 2 hts (good_V kw_1235 kw_1236 kw_1237 kw_5 kw_1238) rfl rfl rfl (by decide +kernel) ⟨by decide, by decide⟩) (ti_preV hK hT2 hy2 rfl rfl) rfl rfl hl.1 rfl (lv_room (Nat.le_of_ble_eq_true rfl)) dL_law_1220 ⟨by decide, by decide⟩) hS (fun q h => hA2 q (pW_pA h)) (fun r2 H locs hB hS _ hk => ?_)
  obtain ⟨hT2, ir2⟩ := hB
  have hT1 := TI.frameW hT1 (fun q h1 h2 => hdis q h2 h1) hk
  refine lv_pop hx hb dL_law_1223 rfl ?_
  refine lv_goto (tgt := 2019) hx hb dL_law_1224 (by decide) ?_
  exact nxt ν2 H locs hT1 hT2 hν hS
set_option maxHeartbeats 8000000 in
set_option maxRecDepth 100000 in
theorem law_c31 {p : Program} {e : Env} {s : State} {m : MethodId} {below : List Frame} {meth : Method} {c : Code} (l : Launch) {b L : Nat} {xs : Nat → Int32} (hL : L ≤ 3072) (hx : p.tables.exec = Jvm.exec) (hb : c.code = code) (hr : meth.sig.returnType = ret) (hml : c.maxLocals = 4) (hown : s.vm.findClass RL = some m.cls) (hts : ∀ w ∈ wq, w.before #[Value.ref b] s = true) (hX : va_X b L xs s s.heap) (hbl : b < s.heap.size) (hlocks : meth.locks = false) {D : va_G} {c0 : Nat → ClassId} {Y1 Y2 : Nat → Option Nat} {o1 o2 : Nat} {adK adV : Nat → Nat} (hK : va_K D vwCl (tysOf c0) s) (hSO : SO (fun q : Nat => s.heap.size ≤ q) adK adV s s.heap) (hdis : ∀ q, pA Y1 q → pA Y2 q → False) (hU : uq Y2) (hy1 : Y1 o1 = some 9) (hA1 : ∀ q, pA Y1 q → s.heap.size ≤ q) (hy2 : Y2 o2 = some 10) (hA2 : ∀ q, pA Y2 q → s.heap.size ≤ q) {ν2 : Nat → Nat} {i : Int32} {H : Heap} {locs : List Loc} {ls : Array Slot} (hi : iv i 0 3066) (hiL : i.toInt + 6 ≤ (L : Int)) (hT1 : TI D vwCl (tysOf c0) (RTg (fun _ => 0)) Y1 H) (hT2 : TI D vwCl (tysOf c0) (RTg ν2) Y2 H) (hν : nuOK ν2) (hS : va_S (fun q : Nat => s.heap.size ≤ q) s.heap H locs) (hl : lv_has ls 4 [(3, .int i), (2, .ref o2), (1, .ref o1), (0, .ref b)]) (nxt : ∀ (ν2 : Nat → Nat) (H : Heap) (locs : List Loc), TI D vwCl (tysOf c0) (RTg (fun _ => 0)) Y1 H → TI D vwCl (tysOf c0) (RTg ν2) Y2 H → nuOK ν2 → va_S (fun q : Nat => s.heap.size ≤ q) s.heap H locs → W p l e room_1 s m #[Value.ref b] below meth c H locs 188 7230 (lw_Z below #[Value.ref b] s) (F0 m 2019 ls [])) : W p l e room_1 s m #[Value.ref b] below meth c H locs 188 7230 (lw_Z below #[Value.ref b] s) (F0 m 1227 ls []) := by
  have hbA : ¬ (fun q : Nat => s.heap.size ≤ q) b := Nat.not_le.mpr hbl
  refine lv_aload_n hx hb dL_law_1227 rfl (lv_at hl 2 rfl) ?_
  refine lv_aload_n hx hb dL_law_1228 rfl (lv_at hl 3 rfl) ?_
  refine lv_iload_n hx hb dL_law_1229 rfl (lv_at hl 0 rfl) ?_
  refine lv_iconst (v := 1) hx hb dL_law_1230 (by decide) ?_
  refine lv_iadd hx hb dL_law_1231 ?_
  refine va_sld (i := i + 1) hx hb hX hbl hbA hS (law_in hi hiL (d := 1) (by decide) (by decide) (by decide)) dL_law_1232 ?_
  refine lv_aload_n hx hb dL_law_1233 rfl (lv_at hl 3 rfl) ?_
  refine lv_iload_n hx hb dL_law_1234 rfl (lv_at hl 0 rfl) ?_
  refine lv_iconst (v := 2) hx hb dL_law_1235 (by decide) ?_
  refine lv_iadd hx hb dL_law_1236 ?_
  refine va_sld (i := i + 2) hx hb hX hbl hbA hS (law_in hi hiL (d := 2) (by decide) (by decide) (by decide)) dL_law_1237 ?_
  refine ti_calli (va_runV (As := [.int (xs (i + 1).toNatClampNeg), .int (xs (i + 2).toNatClampNeg)]) (rest := []) ⟨hx, hb, hml, hown, hts⟩ (t_X9_breaks l hT1 hy1 (iv_top _) (iv_top _)) (cwV 2 hts (good_V kw_1239 kw_1240 kw_1241 kw_2 kw_1242) rfl rfl rfl (by decide +kernel) ⟨by decide, by decide⟩) (ti_preV hK hT1 hy1 rfl rfl) rfl rfl hl.1 rfl (lv_room (Nat.le_of_ble_eq_true rfl)) dL_law_1238 ⟨by decide, by decide⟩) hS (fun q h => hA1 q (pW_pA h)) (fun r1 H locs hB hS _ hk => ?_)
  obtain ⟨hT1, ir1⟩ := hB
  have hT2 := TI.frameW hT2 hdis hk
  refine lv_pop hx hb dL_law_1241 rfl ?_
  refine lv_aload_n hx hb dL_law_1242 rfl (lv_at hl 1 rfl) ?_
  refine lv_aload_n hx hb dL_law_1243 rfl (lv_at hl 3 rfl) ?_
  refine lv_iload_n hx hb dL_law_1244 rfl (lv_at hl 0 rfl) ?_
  refine lv_iconst (v := 1) hx hb dL_law_1245 (by decide) ?_
  refine lv_iadd hx hb dL_law_1246 ?_
  refine va_sld (i := i + 1) hx hb hX hbl hbA hS (law_in hi hiL (d := 1) (by decide) (by decide) (by decide)) dL_law_1247 ?_
  refine lv_aload_n hx hb dL_law_1248 rfl (lv_at hl 3 rfl) ?_
  refine lv_iload_n hx hb dL_law_1249 rfl (lv_at hl 0 rfl) ?_
  refine lv_iconst (v := 2) hx hb dL_law_1250 (by decide) ?_
  refine lv_iadd hx hb dL_law_1251 ?_
  refine va_sld (i := i + 2) hx hb hX hbl hbA hS (law_in hi hiL (d := 2) (by decide) (by decide) (by decide)) dL_law_1252 ?_
  refine ti_calli (va_runV (As := [.int (xs (i + 1).toNatClampNeg), .int (xs (i + 2).toNatClampNeg)]) (rest := []) ⟨hx, hb, hml, hown, hts⟩ (t_X10_breaks l hT2 hy2 (iv_top _) (iv_top _) hν.1 hν.2.2.1 hU) (cwV 2 hts (good_V kw_1247 kw_1248 kw_1249 kw_5 kw_1250) rfl rfl rfl (by decide +kernel) ⟨by decide, by decide⟩) (ti_preV hK hT2 hy2 rfl rfl) rfl rfl hl.1 rfl (lv_room (Nat.le_of_ble_eq_true rfl)) dL_law_1253 ⟨by decide, by decide⟩) hS (fun q h => hA2 q (pW_pA h)) (fun r2 H locs hB hS _ hk => ?_)
  obtain ⟨hT2, ir2⟩ := hB
  have hT1 := TI.frameW hT1 (fun q h1 h2 => hdis q h2 h1) hk
  refine lv_pop hx hb dL_law_1256 rfl ?_
  refine lv_goto (tgt := 2019) hx hb dL_law_1257 (by decide) ?_
  exact nxt ν2 H locs hT1 hT2 hν hS
set_option maxHeartbeats 8000000 in
set_option maxRecDepth 100000 in
theorem law_c32 {p : Program} {e : Env} {s : State} {m : MethodId} {below : List Frame} {meth : Method} {c : Code} (l : Launch) {b L : Nat} {xs : Nat → Int32} (hL : L ≤ 3072) (hx : p.tables.exec = Jvm.exec) (hb : c.code = code) (hr : meth.sig.returnType = ret) (hml : c.maxLocals = 4) (hown : s.vm.findClass RL = some m.cls) (hts : ∀ w ∈ wq, w.before #[Value.ref b] s = true) (hX : va_X b L xs s s.heap) (hbl : b < s.heap.size) (hlocks : meth.locks = false) {D : va_G} {c0 : Nat → ClassId} {Y1 Y2 : Nat → Option Nat} {o1 o2 : Nat} {adK adV : Nat → Nat} (hK : va_K D vwCl (tysOf c0) s) (hSO : SO (fun q : Nat => s.heap.size ≤ q) adK adV s s.heap) (hdis : ∀ q, pA Y1 q → pA Y2 q → False) (hU : uq Y2) (hy1 : Y1 o1 = some 9) (hA1 : ∀ q, pA Y1 q → s.heap.size ≤ q) (hy2 : Y2 o2 = some 10) (hA2 : ∀ q, pA Y2 q → s.heap.size ≤ q) {ν2 : Nat → Nat} {i : Int32} {H : Heap} {locs : List Loc} {ls : Array Slot} (hi : iv i 0 3066) (hiL : i.toInt + 6 ≤ (L : Int)) (hT1 : TI D vwCl (tysOf c0) (RTg (fun _ => 0)) Y1 H) (hT2 : TI D vwCl (tysOf c0) (RTg ν2) Y2 H) (hν : nuOK ν2) (hS : va_S (fun q : Nat => s.heap.size ≤ q) s.heap H locs) (hl : lv_has ls 4 [(3, .int i), (2, .ref o2), (1, .ref o1), (0, .ref b)]) (nxt : ∀ (ν2 : Nat → Nat) (H : Heap) (locs : List Loc), TI D vwCl (tysOf c0) (RTg (fun _ => 0)) Y1 H → TI D vwCl (tysOf c0) (RTg ν2) Y2 H → nuOK ν2 → va_S (fun q : Nat => s.heap.size ≤ q) s.heap H locs → W p l e room_1 s m #[Value.ref b] below meth c H locs 188 7230 (lw_Z below #[Value.ref b] s) (F0 m 2019 ls [])) : W p l e room_1 s m #[Value.ref b] below meth c H locs 188 7230 (lw_Z below #[Value.ref b] s) (F0 m 1260 ls []) := by
  have hbA : ¬ (fun q : Nat => s.heap.size ≤ q) b := Nat.not_le.mpr hbl
  refine lv_aload_n hx hb dL_law_1260 rfl (lv_at hl 2 rfl) ?_
  refine lv_aload_n hx hb dL_law_1261 rfl (lv_at hl 3 rfl) ?_
  refine lv_iload_n hx hb dL_law_1262 rfl (lv_at hl 0 rfl) ?_
  refine lv_iconst (v := 1) hx hb dL_law_1263 (by decide) ?_
  refine lv_iadd hx hb dL_law_1264 ?_
  refine va_sld (i := i + 1) hx hb hX hbl hbA hS (law_in hi hiL (d := 1) (by decide) (by decide) (by decide)) dL_law_1265 ?_
  refine ti_calli (va_runV (As := [.int (xs (i + 1).toNatClampNeg)]) (rest := []) ⟨hx, hb, hml, hown, hts⟩ (t_X9_third l hT1 hy1 (iv_top _)) (cwV 1 hts (good_V kw_1255 kw_1256 kw_1257 kw_2 kw_1258) rfl rfl rfl (by decide +kernel) ⟨by decide, by decide⟩) (ti_preV hK hT1 hy1 rfl rfl) rfl rfl hl.1 rfl (lv_room (Nat.le_of_ble_eq_true rfl)) dL_law_1266 ⟨by decide, by decide⟩) hS (fun q h => hA1 q (pW_pA h)) (fun r1 H locs hB hS _ hk => ?_)
  obtain ⟨hT1, ir1⟩ := hB
  have hT2 := TI.frameW hT2 hdis hk
  refine lv_pop hx hb dL_law_1269 rfl ?_
  refine lv_aload_n hx hb dL_law_1270 rfl (lv_at hl 1 rfl) ?_
  refine lv_aload_n hx hb dL_law_1271 rfl (lv_at hl 3 rfl) ?_
  refine lv_iload_n hx hb dL_law_1272 rfl (lv_at hl 0 rfl) ?_
  refine lv_iconst (v := 1) hx hb dL_law_1273 (by decide) ?_
  refine lv_iadd hx hb dL_law_1274 ?_
  refine va_sld (i := i + 1) hx hb hX hbl hbA hS (law_in hi hiL (d := 1) (by decide) (by decide) (by decide)) dL_law_1275 ?_
  refine ti_calli (va_runV (As := [.int (xs (i + 1).toNatClampNeg)]) (rest := []) ⟨hx, hb, hml, hown, hts⟩ (t_X10_third l hT2 hy2 (iv_top _) hν.1 hν.2.2.1 hU) (cwV 1 hts (good_V kw_1259 kw_1260 kw_1261 kw_5 kw_1262) rfl rfl rfl (by decide +kernel) ⟨by decide, by decide⟩) (ti_preV hK hT2 hy2 rfl rfl) rfl rfl hl.1 rfl (lv_room (Nat.le_of_ble_eq_true rfl)) dL_law_1276 ⟨by decide, by decide⟩) hS (fun q h => hA2 q (pW_pA h)) (fun r2 H locs hB hS _ hk => ?_)
  obtain ⟨hT2, ir2⟩ := hB
  have hT1 := TI.frameW hT1 (fun q h1 h2 => hdis q h2 h1) hk
  refine lv_pop hx hb dL_law_1279 rfl ?_
  refine lv_goto (tgt := 2019) hx hb dL_law_1280 (by decide) ?_
  exact nxt ν2 H locs hT1 hT2 hν hS
