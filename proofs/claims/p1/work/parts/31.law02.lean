set_option maxHeartbeats 8000000 in
set_option maxRecDepth 100000 in
theorem law_c22 {p : Program} {e : Env} {s : State} {m : MethodId} {below : List Frame} {meth : Method} {c : Code} (l : Launch) {b L : Nat} {xs : Nat → Int32} (hL : L ≤ 6) (hx : p.tables.exec = Jvm.exec) (hb : c.code = code) (hr : meth.sig.returnType = ret) (hml : c.maxLocals = 4) (hown : s.vm.findClass RL = some m.cls) (hts : ∀ w ∈ wq, w.before #[Value.ref b] s = true) (hX : va_X b L xs s s.heap) (hbl : b < s.heap.size) (hlocks : meth.locks = false) (hL6 : L = 6) {D : va_G} {c0 : Nat → ClassId} {Y1 Y2 : Nat → Option Nat} {o1 o2 : Nat} {H : Heap} {locs : List Loc} {ls : Array Slot} (hK : va_K D vwCl (tysOf c0) s) (hN : nwA s) (hdis : ∀ q, pA Y1 q → pA Y2 q → False) (hT1 : TI D vwCl (tysOf c0) (RT1 false) Y1 H) (hy1 : Y1 o1 = some 9) (hA1 : ∀ q, pA Y1 q → s.heap.size ≤ q) (hT2 : TI D vwCl (tysOf c0) (RT1 false) Y2 H) (hy2 : Y2 o2 = some 10) (hA2 : ∀ q, pA Y2 q → s.heap.size ≤ q) (hS : va_S (fun q : Nat => s.heap.size ≤ q) s.heap H locs) (hl : lv_has ls 4 [(3, .int 0), (2, .ref o2), (1, .ref o1), (0, .ref b)]) : W p l e room_1 s m #[Value.ref b] below meth c H locs 188 7230 (lw_Z below #[Value.ref b] s) (F0 m 924 ls []) := by
  have hbA : ¬ (fun q : Nat => s.heap.size ≤ q) b := Nat.not_le.mpr hbl
  have hin : ∀ {i : Int32} {k : Int}, iv i k k → (decide (0 ≤ k) && decide (k < 6)) = true → vp_in i L := fun h1 h2 => by rw [hL6]; exact iv_in h1 (by simpa using h2)
  refine lv_aload_n hx hb dL_law_924 rfl (lv_at hl 2 rfl) ?_
  refine lv_aload_n hx hb dL_law_925 rfl (lv_at hl 3 rfl) ?_
  refine lv_iload_n hx hb dL_law_926 rfl (lv_at hl 0 rfl) ?_
  refine lv_iconst (v := 1) hx hb dL_law_927 (by decide) ?_
  refine lv_iadd hx hb dL_law_928 ?_
  refine lv_topi (fun w9 e9 => ?_)
  obtain rfl : w9 = 1 := e9.trans (by decide)
  refine va_sld hx hb hX hbl hbA hS (hin (iv_c (x := (1 : Int32)) (k := 1) (by decide)) (by decide)) dL_law_929 ?_
  refine lv_aload_n hx hb dL_law_930 rfl (lv_at hl 3 rfl) ?_
  refine lv_iload_n hx hb dL_law_931 rfl (lv_at hl 0 rfl) ?_
  refine lv_iconst (v := 2) hx hb dL_law_932 (by decide) ?_
  refine lv_iadd hx hb dL_law_933 ?_
  refine lv_topi (fun w9 e9 => ?_)
  obtain rfl : w9 = 2 := e9.trans (by decide)
  refine va_sld hx hb hX hbl hbA hS (hin (iv_c (x := (2 : Int32)) (k := 2) (by decide)) (by decide)) dL_law_934 ?_
  refine lv_aload_n hx hb dL_law_935 rfl (lv_at hl 3 rfl) ?_
  refine lv_iload_n hx hb dL_law_936 rfl (lv_at hl 0 rfl) ?_
  refine lv_iconst (v := 3) hx hb dL_law_937 (by decide) ?_
  refine lv_iadd hx hb dL_law_938 ?_
  refine lv_topi (fun w9 e9 => ?_)
  obtain rfl : w9 = 3 := e9.trans (by decide)
  refine va_sld hx hb hX hbl hbA hS (hin (iv_c (x := (3 : Int32)) (k := 3) (by decide)) (by decide)) dL_law_939 ?_
  refine ti_calli (va_runV (As := [.int (xs (1 : Int32).toNatClampNeg), .int (xs (2 : Int32).toNatClampNeg), .int (xs (3 : Int32).toNatClampNeg)]) (rest := []) ⟨hx, hb, hml, hown, hts⟩ (t_X9_total l hT1 hy1 (iv_top _) (iv_top _) (iv_top _)) (cwV 3 hts (good_V kw_1107 kw_1108 kw_1109 kw_2 kw_1110) rfl rfl rfl (by decide +kernel) ⟨by decide, by decide⟩) (ti_preV hK hT1 hy1 rfl rfl) rfl rfl hl.1 rfl (lv_room (Nat.le_of_ble_eq_true rfl)) dL_law_940 ⟨by decide, by decide⟩) hS (fun q h => hA1 q h) (fun r1 H1 locs hB hS _ hk => ?_)
  obtain ⟨_, ir1⟩ := hB
  have hT2 := TI.frame hT2 hdis hk
  generalize H1 = H at hT2 hS ⊢
  refine lv_aload_n hx hb dL_law_943 rfl (lv_at hl 1 rfl) ?_
  refine lv_aload_n hx hb dL_law_944 rfl (lv_at hl 3 rfl) ?_
  refine lv_iload_n hx hb dL_law_945 rfl (lv_at hl 0 rfl) ?_
  refine lv_iconst (v := 1) hx hb dL_law_946 (by decide) ?_
  refine lv_iadd hx hb dL_law_947 ?_
  refine lv_topi (fun w9 e9 => ?_)
  obtain rfl : w9 = 1 := e9.trans (by decide)
  refine va_sld hx hb hX hbl hbA hS (hin (iv_c (x := (1 : Int32)) (k := 1) (by decide)) (by decide)) dL_law_948 ?_
  refine lv_aload_n hx hb dL_law_949 rfl (lv_at hl 3 rfl) ?_
  refine lv_iload_n hx hb dL_law_950 rfl (lv_at hl 0 rfl) ?_
  refine lv_iconst (v := 2) hx hb dL_law_951 (by decide) ?_
  refine lv_iadd hx hb dL_law_952 ?_
  refine lv_topi (fun w9 e9 => ?_)
  obtain rfl : w9 = 2 := e9.trans (by decide)
  refine va_sld hx hb hX hbl hbA hS (hin (iv_c (x := (2 : Int32)) (k := 2) (by decide)) (by decide)) dL_law_953 ?_
  refine lv_aload_n hx hb dL_law_954 rfl (lv_at hl 3 rfl) ?_
  refine lv_iload_n hx hb dL_law_955 rfl (lv_at hl 0 rfl) ?_
  refine lv_iconst (v := 3) hx hb dL_law_956 (by decide) ?_
  refine lv_iadd hx hb dL_law_957 ?_
  refine lv_topi (fun w9 e9 => ?_)
  obtain rfl : w9 = 3 := e9.trans (by decide)
  refine va_sld hx hb hX hbl hbA hS (hin (iv_c (x := (3 : Int32)) (k := 3) (by decide)) (by decide)) dL_law_958 ?_
  refine ti_calli (va_runV (As := [.int (xs (1 : Int32).toNatClampNeg), .int (xs (2 : Int32).toNatClampNeg), .int (xs (3 : Int32).toNatClampNeg)]) (rest := [.int r1]) ⟨hx, hb, hml, hown, hts⟩ (t_X10_total l hT2 hy2 (iv_top _) (iv_top _) (iv_top _)) (cwV 3 hts (good_V kw_1128 kw_1129 kw_1130 kw_5 kw_1131) rfl rfl rfl (by decide +kernel) ⟨by decide, by decide⟩) (ti_preV hK hT2 hy2 rfl rfl) rfl rfl hl.1 rfl (lv_room (Nat.le_of_ble_eq_true rfl)) dL_law_959 ⟨by decide, by decide⟩) hS (fun q h => hA2 q h) (fun r2 H1 locs hB hS _ hk => ?_)
  obtain ⟨_, ir2⟩ := hB
  generalize H1 = H at hS ⊢
  refine lv_icmp_eq (tgt := 2019) hx hb dL_law_962 (by decide) (fun _ => ?_) (fun h => ?_)
  · exact law_nxt l hL hx hb hr hml hown hts hX hbl hlocks hL6 hS hl
  · exact absurd (Int32.toInt_inj.mp (by have := ir1.1; have := ir1.2; have := ir2.1; have := ir2.2; omega)) h
set_option maxHeartbeats 8000000 in
set_option maxRecDepth 100000 in
theorem law_c23 {p : Program} {e : Env} {s : State} {m : MethodId} {below : List Frame} {meth : Method} {c : Code} (l : Launch) {b L : Nat} {xs : Nat → Int32} (hL : L ≤ 6) (hx : p.tables.exec = Jvm.exec) (hb : c.code = code) (hr : meth.sig.returnType = ret) (hml : c.maxLocals = 4) (hown : s.vm.findClass RL = some m.cls) (hts : ∀ w ∈ wq, w.before #[Value.ref b] s = true) (hX : va_X b L xs s s.heap) (hbl : b < s.heap.size) (hlocks : meth.locks = false) (hL6 : L = 6) {D : va_G} {c0 : Nat → ClassId} {Y1 Y2 : Nat → Option Nat} {o1 o2 : Nat} {H : Heap} {locs : List Loc} {ls : Array Slot} (hK : va_K D vwCl (tysOf c0) s) (hN : nwA s) (hdis : ∀ q, pA Y1 q → pA Y2 q → False) (hT1 : TI D vwCl (tysOf c0) (RT1 false) Y1 H) (hy1 : Y1 o1 = some 9) (hA1 : ∀ q, pA Y1 q → s.heap.size ≤ q) (hT2 : TI D vwCl (tysOf c0) (RT1 false) Y2 H) (hy2 : Y2 o2 = some 10) (hA2 : ∀ q, pA Y2 q → s.heap.size ≤ q) (hS : va_S (fun q : Nat => s.heap.size ≤ q) s.heap H locs) (hl : lv_has ls 4 [(3, .int 0), (2, .ref o2), (1, .ref o1), (0, .ref b)]) : W p l e room_1 s m #[Value.ref b] below meth c H locs 188 7230 (lw_Z below #[Value.ref b] s) (F0 m 967 ls []) := by
  have hbA : ¬ (fun q : Nat => s.heap.size ≤ q) b := Nat.not_le.mpr hbl
  have hin : ∀ {i : Int32} {k : Int}, iv i k k → (decide (0 ≤ k) && decide (k < 6)) = true → vp_in i L := fun h1 h2 => by rw [hL6]; exact iv_in h1 (by simpa using h2)
  refine lv_aload_n hx hb dL_law_967 rfl (lv_at hl 2 rfl) ?_
  refine lv_aload_n hx hb dL_law_968 rfl (lv_at hl 3 rfl) ?_
  refine lv_iload_n hx hb dL_law_969 rfl (lv_at hl 0 rfl) ?_
  refine lv_iconst (v := 1) hx hb dL_law_970 (by decide) ?_
  refine lv_iadd hx hb dL_law_971 ?_
  refine lv_topi (fun w9 e9 => ?_)
  obtain rfl : w9 = 1 := e9.trans (by decide)
  refine va_sld hx hb hX hbl hbA hS (hin (iv_c (x := (1 : Int32)) (k := 1) (by decide)) (by decide)) dL_law_972 ?_
  refine lv_aload_n hx hb dL_law_973 rfl (lv_at hl 3 rfl) ?_
  refine lv_iload_n hx hb dL_law_974 rfl (lv_at hl 0 rfl) ?_
  refine lv_iconst (v := 2) hx hb dL_law_975 (by decide) ?_
  refine lv_iadd hx hb dL_law_976 ?_
  refine lv_topi (fun w9 e9 => ?_)
  obtain rfl : w9 = 2 := e9.trans (by decide)
  refine va_sld hx hb hX hbl hbA hS (hin (iv_c (x := (2 : Int32)) (k := 2) (by decide)) (by decide)) dL_law_977 ?_
  refine ti_calli (va_runV (As := [.int (xs (1 : Int32).toNatClampNeg), .int (xs (2 : Int32).toNatClampNeg)]) (rest := []) ⟨hx, hb, hml, hown, hts⟩ (t_X9_way l hT1 hy1 (iv_top _) (iv_top _)) (cwV 2 hts (good_V kw_1145 kw_1146 kw_1147 kw_2 kw_1148) rfl rfl rfl (by decide +kernel) ⟨by decide, by decide⟩) (ti_preV hK hT1 hy1 rfl rfl) rfl rfl hl.1 rfl (lv_room (Nat.le_of_ble_eq_true rfl)) dL_law_978 ⟨by decide, by decide⟩) hS (fun q h => hA1 q h) (fun r1 H1 locs hB hS _ hk => ?_)
  obtain ⟨_, ir1⟩ := hB
  have hT2 := TI.frame hT2 hdis hk
  generalize H1 = H at hT2 hS ⊢
  refine lv_aload_n hx hb dL_law_981 rfl (lv_at hl 1 rfl) ?_
  refine lv_aload_n hx hb dL_law_982 rfl (lv_at hl 3 rfl) ?_
  refine lv_iload_n hx hb dL_law_983 rfl (lv_at hl 0 rfl) ?_
  refine lv_iconst (v := 1) hx hb dL_law_984 (by decide) ?_
  refine lv_iadd hx hb dL_law_985 ?_
  refine lv_topi (fun w9 e9 => ?_)
  obtain rfl : w9 = 1 := e9.trans (by decide)
  refine va_sld hx hb hX hbl hbA hS (hin (iv_c (x := (1 : Int32)) (k := 1) (by decide)) (by decide)) dL_law_986 ?_
  refine lv_aload_n hx hb dL_law_987 rfl (lv_at hl 3 rfl) ?_
  refine lv_iload_n hx hb dL_law_988 rfl (lv_at hl 0 rfl) ?_
  refine lv_iconst (v := 2) hx hb dL_law_989 (by decide) ?_
  refine lv_iadd hx hb dL_law_990 ?_
  refine lv_topi (fun w9 e9 => ?_)
  obtain rfl : w9 = 2 := e9.trans (by decide)
  refine va_sld hx hb hX hbl hbA hS (hin (iv_c (x := (2 : Int32)) (k := 2) (by decide)) (by decide)) dL_law_991 ?_
  refine ti_calli (va_runV (As := [.int (xs (1 : Int32).toNatClampNeg), .int (xs (2 : Int32).toNatClampNeg)]) (rest := [.int r1]) ⟨hx, hb, hml, hown, hts⟩ (t_X10_way l hT2 hy2 (iv_top _) (iv_top _)) (cwV 2 hts (good_V kw_1149 kw_1150 kw_1151 kw_5 kw_1152) rfl rfl rfl (by decide +kernel) ⟨by decide, by decide⟩) (ti_preV hK hT2 hy2 rfl rfl) rfl rfl hl.1 rfl (lv_room (Nat.le_of_ble_eq_true rfl)) dL_law_992 ⟨by decide, by decide⟩) hS (fun q h => hA2 q h) (fun r2 H1 locs hB hS _ hk => ?_)
  obtain ⟨_, ir2⟩ := hB
  generalize H1 = H at hS ⊢
  refine lv_icmp_eq (tgt := 2019) hx hb dL_law_995 (by decide) (fun _ => ?_) (fun h => ?_)
  · exact law_nxt l hL hx hb hr hml hown hts hX hbl hlocks hL6 hS hl
  · exact absurd (Int32.toInt_inj.mp (by have := ir1.1; have := ir1.2; have := ir2.1; have := ir2.2; omega)) h
set_option maxHeartbeats 8000000 in
set_option maxRecDepth 100000 in
theorem law_c24 {p : Program} {e : Env} {s : State} {m : MethodId} {below : List Frame} {meth : Method} {c : Code} (l : Launch) {b L : Nat} {xs : Nat → Int32} (hL : L ≤ 6) (hx : p.tables.exec = Jvm.exec) (hb : c.code = code) (hr : meth.sig.returnType = ret) (hml : c.maxLocals = 4) (hown : s.vm.findClass RL = some m.cls) (hts : ∀ w ∈ wq, w.before #[Value.ref b] s = true) (hX : va_X b L xs s s.heap) (hbl : b < s.heap.size) (hlocks : meth.locks = false) (hL6 : L = 6) {D : va_G} {c0 : Nat → ClassId} {Y1 Y2 : Nat → Option Nat} {o1 o2 : Nat} {H : Heap} {locs : List Loc} {ls : Array Slot} (hK : va_K D vwCl (tysOf c0) s) (hN : nwA s) (hdis : ∀ q, pA Y1 q → pA Y2 q → False) (hT1 : TI D vwCl (tysOf c0) (RT1 false) Y1 H) (hy1 : Y1 o1 = some 9) (hA1 : ∀ q, pA Y1 q → s.heap.size ≤ q) (hT2 : TI D vwCl (tysOf c0) (RT1 false) Y2 H) (hy2 : Y2 o2 = some 10) (hA2 : ∀ q, pA Y2 q → s.heap.size ≤ q) (hS : va_S (fun q : Nat => s.heap.size ≤ q) s.heap H locs) (hl : lv_has ls 4 [(3, .int 0), (2, .ref o2), (1, .ref o1), (0, .ref b)]) : W p l e room_1 s m #[Value.ref b] below meth c H locs 188 7230 (lw_Z below #[Value.ref b] s) (F0 m 1000 ls []) := by
  have hbA : ¬ (fun q : Nat => s.heap.size ≤ q) b := Nat.not_le.mpr hbl
  have hin : ∀ {i : Int32} {k : Int}, iv i k k → (decide (0 ≤ k) && decide (k < 6)) = true → vp_in i L := fun h1 h2 => by rw [hL6]; exact iv_in h1 (by simpa using h2)
  refine lv_aload_n hx hb dL_law_1000 rfl (lv_at hl 2 rfl) ?_
  refine lv_aload_n hx hb dL_law_1001 rfl (lv_at hl 3 rfl) ?_
  refine lv_iload_n hx hb dL_law_1002 rfl (lv_at hl 0 rfl) ?_
  refine lv_iconst (v := 1) hx hb dL_law_1003 (by decide) ?_
  refine lv_iadd hx hb dL_law_1004 ?_
  refine lv_topi (fun w9 e9 => ?_)
  obtain rfl : w9 = 1 := e9.trans (by decide)
  refine va_sld hx hb hX hbl hbA hS (hin (iv_c (x := (1 : Int32)) (k := 1) (by decide)) (by decide)) dL_law_1005 ?_
  refine lv_aload_n hx hb dL_law_1006 rfl (lv_at hl 3 rfl) ?_
  refine lv_iload_n hx hb dL_law_1007 rfl (lv_at hl 0 rfl) ?_
  refine lv_iconst (v := 2) hx hb dL_law_1008 (by decide) ?_
  refine lv_iadd hx hb dL_law_1009 ?_
  refine lv_topi (fun w9 e9 => ?_)
  obtain rfl : w9 = 2 := e9.trans (by decide)
  refine va_sld hx hb hX hbl hbA hS (hin (iv_c (x := (2 : Int32)) (k := 2) (by decide)) (by decide)) dL_law_1010 ?_
  refine ti_calli (va_runV (As := [.int (xs (1 : Int32).toNatClampNeg), .int (xs (2 : Int32).toNatClampNeg)]) (rest := []) ⟨hx, hb, hml, hown, hts⟩ (t_X9_turnsTo l hT1 hy1 (iv_top _) (iv_top _)) (cwV 2 hts (good_V kw_1153 kw_1154 kw_1155 kw_2 kw_1156) rfl rfl rfl (by decide +kernel) ⟨by decide, by decide⟩) (ti_preV hK hT1 hy1 rfl rfl) rfl rfl hl.1 rfl (lv_room (Nat.le_of_ble_eq_true rfl)) dL_law_1011 ⟨by decide, by decide⟩) hS (fun q h => hA1 q h) (fun r1 H1 locs hB hS _ hk => ?_)
  obtain ⟨_, ir1⟩ := hB
  have hT2 := TI.frame hT2 hdis hk
  generalize H1 = H at hT2 hS ⊢
  refine lv_aload_n hx hb dL_law_1014 rfl (lv_at hl 1 rfl) ?_
  refine lv_aload_n hx hb dL_law_1015 rfl (lv_at hl 3 rfl) ?_
  refine lv_iload_n hx hb dL_law_1016 rfl (lv_at hl 0 rfl) ?_
  refine lv_iconst (v := 1) hx hb dL_law_1017 (by decide) ?_
  refine lv_iadd hx hb dL_law_1018 ?_
  refine lv_topi (fun w9 e9 => ?_)
  obtain rfl : w9 = 1 := e9.trans (by decide)
  refine va_sld hx hb hX hbl hbA hS (hin (iv_c (x := (1 : Int32)) (k := 1) (by decide)) (by decide)) dL_law_1019 ?_
  refine lv_aload_n hx hb dL_law_1020 rfl (lv_at hl 3 rfl) ?_
  refine lv_iload_n hx hb dL_law_1021 rfl (lv_at hl 0 rfl) ?_
  refine lv_iconst (v := 2) hx hb dL_law_1022 (by decide) ?_
  refine lv_iadd hx hb dL_law_1023 ?_
  refine lv_topi (fun w9 e9 => ?_)
  obtain rfl : w9 = 2 := e9.trans (by decide)
  refine va_sld hx hb hX hbl hbA hS (hin (iv_c (x := (2 : Int32)) (k := 2) (by decide)) (by decide)) dL_law_1024 ?_
  refine ti_calli (va_runV (As := [.int (xs (1 : Int32).toNatClampNeg), .int (xs (2 : Int32).toNatClampNeg)]) (rest := [.int r1]) ⟨hx, hb, hml, hown, hts⟩ (t_X10_turnsTo l hT2 hy2 (iv_top _) (iv_top _)) (cwV 2 hts (good_V kw_1157 kw_1158 kw_1159 kw_5 kw_1160) rfl rfl rfl (by decide +kernel) ⟨by decide, by decide⟩) (ti_preV hK hT2 hy2 rfl rfl) rfl rfl hl.1 rfl (lv_room (Nat.le_of_ble_eq_true rfl)) dL_law_1025 ⟨by decide, by decide⟩) hS (fun q h => hA2 q h) (fun r2 H1 locs hB hS _ hk => ?_)
  obtain ⟨_, ir2⟩ := hB
  generalize H1 = H at hS ⊢
  refine lv_icmp_eq (tgt := 2019) hx hb dL_law_1028 (by decide) (fun _ => ?_) (fun h => ?_)
  · exact law_nxt l hL hx hb hr hml hown hts hX hbl hlocks hL6 hS hl
  · exact absurd (Int32.toInt_inj.mp (by have := ir1.1; have := ir1.2; have := ir2.1; have := ir2.2; omega)) h
set_option maxHeartbeats 8000000 in
set_option maxRecDepth 100000 in
theorem law_c25 {p : Program} {e : Env} {s : State} {m : MethodId} {below : List Frame} {meth : Method} {c : Code} (l : Launch) {b L : Nat} {xs : Nat → Int32} (hL : L ≤ 6) (hx : p.tables.exec = Jvm.exec) (hb : c.code = code) (hr : meth.sig.returnType = ret) (hml : c.maxLocals = 4) (hown : s.vm.findClass RL = some m.cls) (hts : ∀ w ∈ wq, w.before #[Value.ref b] s = true) (hX : va_X b L xs s s.heap) (hbl : b < s.heap.size) (hlocks : meth.locks = false) (hL6 : L = 6) {D : va_G} {c0 : Nat → ClassId} {Y1 Y2 : Nat → Option Nat} {o1 o2 : Nat} {H : Heap} {locs : List Loc} {ls : Array Slot} (hK : va_K D vwCl (tysOf c0) s) (hN : nwA s) (hdis : ∀ q, pA Y1 q → pA Y2 q → False) (hT1 : TI D vwCl (tysOf c0) (RT1 false) Y1 H) (hy1 : Y1 o1 = some 9) (hA1 : ∀ q, pA Y1 q → s.heap.size ≤ q) (hT2 : TI D vwCl (tysOf c0) (RT1 false) Y2 H) (hy2 : Y2 o2 = some 10) (hA2 : ∀ q, pA Y2 q → s.heap.size ≤ q) (hS : va_S (fun q : Nat => s.heap.size ≤ q) s.heap H locs) (hl : lv_has ls 4 [(3, .int 0), (2, .ref o2), (1, .ref o1), (0, .ref b)]) : W p l e room_1 s m #[Value.ref b] below meth c H locs 188 7230 (lw_Z below #[Value.ref b] s) (F0 m 1033 ls []) := by
  have hbA : ¬ (fun q : Nat => s.heap.size ≤ q) b := Nat.not_le.mpr hbl
  have hin : ∀ {i : Int32} {k : Int}, iv i k k → (decide (0 ≤ k) && decide (k < 6)) = true → vp_in i L := fun h1 h2 => by rw [hL6]; exact iv_in h1 (by simpa using h2)
  refine lv_aload_n hx hb dL_law_1033 rfl (lv_at hl 2 rfl) ?_
  refine lv_aload_n hx hb dL_law_1034 rfl (lv_at hl 3 rfl) ?_
  refine lv_iload_n hx hb dL_law_1035 rfl (lv_at hl 0 rfl) ?_
  refine lv_iconst (v := 1) hx hb dL_law_1036 (by decide) ?_
  refine lv_iadd hx hb dL_law_1037 ?_
  refine lv_topi (fun w9 e9 => ?_)
  obtain rfl : w9 = 1 := e9.trans (by decide)
  refine va_sld hx hb hX hbl hbA hS (hin (iv_c (x := (1 : Int32)) (k := 1) (by decide)) (by decide)) dL_law_1038 ?_
  refine ti_calli (va_runV (As := [.int (xs (1 : Int32).toNatClampNeg)]) (rest := []) ⟨hx, hb, hml, hown, hts⟩ (t_X9_idle l hT1 hy1 (iv_top _)) (cwV 1 hts (good_V kw_1161 kw_1162 kw_1163 kw_2 kw_1164) rfl rfl rfl (by decide +kernel) ⟨by decide, by decide⟩) (ti_preV hK hT1 hy1 rfl rfl) rfl rfl hl.1 rfl (lv_room (Nat.le_of_ble_eq_true rfl)) dL_law_1039 ⟨by decide, by decide⟩) hS (fun q h => hA1 q h) (fun r1 H1 locs hB hS _ hk => ?_)
  obtain ⟨_, ir1⟩ := hB
  have hT2 := TI.frame hT2 hdis hk
  generalize H1 = H at hT2 hS ⊢
  refine lv_aload_n hx hb dL_law_1042 rfl (lv_at hl 1 rfl) ?_
  refine lv_aload_n hx hb dL_law_1043 rfl (lv_at hl 3 rfl) ?_
  refine lv_iload_n hx hb dL_law_1044 rfl (lv_at hl 0 rfl) ?_
  refine lv_iconst (v := 1) hx hb dL_law_1045 (by decide) ?_
  refine lv_iadd hx hb dL_law_1046 ?_
  refine lv_topi (fun w9 e9 => ?_)
  obtain rfl : w9 = 1 := e9.trans (by decide)
  refine va_sld hx hb hX hbl hbA hS (hin (iv_c (x := (1 : Int32)) (k := 1) (by decide)) (by decide)) dL_law_1047 ?_
  refine ti_calli (va_runV (As := [.int (xs (1 : Int32).toNatClampNeg)]) (rest := [.int r1]) ⟨hx, hb, hml, hown, hts⟩ (t_X10_idle l hT2 hy2 (iv_top _)) (cwV 1 hts (good_V kw_1166 kw_1167 kw_1168 kw_5 kw_1169) rfl rfl rfl (by decide +kernel) ⟨by decide, by decide⟩) (ti_preV hK hT2 hy2 rfl rfl) rfl rfl hl.1 rfl (lv_room (Nat.le_of_ble_eq_true rfl)) dL_law_1048 ⟨by decide, by decide⟩) hS (fun q h => hA2 q h) (fun r2 H1 locs hB hS _ hk => ?_)
  obtain ⟨_, ir2⟩ := hB
  generalize H1 = H at hS ⊢
  refine lv_icmp_eq (tgt := 2019) hx hb dL_law_1051 (by decide) (fun _ => ?_) (fun h => ?_)
  · exact law_nxt l hL hx hb hr hml hown hts hX hbl hlocks hL6 hS hl
  · exact absurd (Int32.toInt_inj.mp (by have := ir1.1; have := ir1.2; have := ir2.1; have := ir2.2; omega)) h
set_option maxHeartbeats 8000000 in
set_option maxRecDepth 100000 in
theorem law_c26 {p : Program} {e : Env} {s : State} {m : MethodId} {below : List Frame} {meth : Method} {c : Code} (l : Launch) {b L : Nat} {xs : Nat → Int32} (hL : L ≤ 6) (hx : p.tables.exec = Jvm.exec) (hb : c.code = code) (hr : meth.sig.returnType = ret) (hml : c.maxLocals = 4) (hown : s.vm.findClass RL = some m.cls) (hts : ∀ w ∈ wq, w.before #[Value.ref b] s = true) (hX : va_X b L xs s s.heap) (hbl : b < s.heap.size) (hlocks : meth.locks = false) (hL6 : L = 6) {D : va_G} {c0 : Nat → ClassId} {Y1 Y2 : Nat → Option Nat} {o1 o2 : Nat} {H : Heap} {locs : List Loc} {ls : Array Slot} (hK : va_K D vwCl (tysOf c0) s) (hN : nwA s) (hdis : ∀ q, pA Y1 q → pA Y2 q → False) (hT1 : TI D vwCl (tysOf c0) (RT1 false) Y1 H) (hy1 : Y1 o1 = some 9) (hA1 : ∀ q, pA Y1 q → s.heap.size ≤ q) (hT2 : TI D vwCl (tysOf c0) (RT1 false) Y2 H) (hy2 : Y2 o2 = some 10) (hA2 : ∀ q, pA Y2 q → s.heap.size ≤ q) (hS : va_S (fun q : Nat => s.heap.size ≤ q) s.heap H locs) (hl : lv_has ls 4 [(3, .int 0), (2, .ref o2), (1, .ref o1), (0, .ref b)]) : W p l e room_1 s m #[Value.ref b] below meth c H locs 188 7230 (lw_Z below #[Value.ref b] s) (F0 m 1056 ls []) := by
  have hbA : ¬ (fun q : Nat => s.heap.size ≤ q) b := Nat.not_le.mpr hbl
  have hin : ∀ {i : Int32} {k : Int}, iv i k k → (decide (0 ≤ k) && decide (k < 6)) = true → vp_in i L := fun h1 h2 => by rw [hL6]; exact iv_in h1 (by simpa using h2)
  refine lv_aload_n hx hb dL_law_1056 rfl (lv_at hl 2 rfl) ?_
  refine ti_calli (va_runV (As := []) (rest := []) ⟨hx, hb, hml, hown, hts⟩ (t_X9_spread l hT1 hy1 ) (cwV 0 hts (good_V kw_1170 kw_1171 kw_1172 kw_2 kw_1173) rfl rfl rfl (by decide +kernel) ⟨by decide, by decide⟩) (ti_preV hK hT1 hy1 rfl rfl) rfl rfl hl.1 rfl (lv_room (Nat.le_of_ble_eq_true rfl)) dL_law_1057 ⟨by decide, by decide⟩) hS (fun q h => hA1 q h) (fun r1 H1 locs hB hS _ hk => ?_)
  obtain ⟨_, ir1⟩ := hB
  have hT2 := TI.frame hT2 hdis hk
  generalize H1 = H at hT2 hS ⊢
  refine lv_aload_n hx hb dL_law_1060 rfl (lv_at hl 1 rfl) ?_
  refine ti_calli (va_runV (As := []) (rest := [.int r1]) ⟨hx, hb, hml, hown, hts⟩ (t_X10_spread l hT2 hy2 ) (cwV 0 hts (good_V kw_1181 kw_1182 kw_1183 kw_5 kw_1184) rfl rfl rfl (by decide +kernel) ⟨by decide, by decide⟩) (ti_preV hK hT2 hy2 rfl rfl) rfl rfl hl.1 rfl (lv_room (Nat.le_of_ble_eq_true rfl)) dL_law_1061 ⟨by decide, by decide⟩) hS (fun q h => hA2 q h) (fun r2 H1 locs hB hS _ hk => ?_)
  obtain ⟨_, ir2⟩ := hB
  generalize H1 = H at hS ⊢
  refine lv_icmp_eq (tgt := 2019) hx hb dL_law_1064 (by decide) (fun _ => ?_) (fun h => ?_)
  · exact law_nxt l hL hx hb hr hml hown hts hX hbl hlocks hL6 hS hl
  · exact absurd (Int32.toInt_inj.mp (by have := ir1.1; have := ir1.2; have := ir2.1; have := ir2.2; omega)) h
set_option maxHeartbeats 8000000 in
set_option maxRecDepth 100000 in
theorem law_c27 {p : Program} {e : Env} {s : State} {m : MethodId} {below : List Frame} {meth : Method} {c : Code} (l : Launch) {b L : Nat} {xs : Nat → Int32} (hL : L ≤ 6) (hx : p.tables.exec = Jvm.exec) (hb : c.code = code) (hr : meth.sig.returnType = ret) (hml : c.maxLocals = 4) (hown : s.vm.findClass RL = some m.cls) (hts : ∀ w ∈ wq, w.before #[Value.ref b] s = true) (hX : va_X b L xs s s.heap) (hbl : b < s.heap.size) (hlocks : meth.locks = false) (hL6 : L = 6) {D : va_G} {c0 : Nat → ClassId} {Y1 Y2 : Nat → Option Nat} {o1 o2 : Nat} {H : Heap} {locs : List Loc} {ls : Array Slot} (hK : va_K D vwCl (tysOf c0) s) (hN : nwA s) (hdis : ∀ q, pA Y1 q → pA Y2 q → False) (hT1 : TI D vwCl (tysOf c0) (RT1 false) Y1 H) (hy1 : Y1 o1 = some 9) (hA1 : ∀ q, pA Y1 q → s.heap.size ≤ q) (hT2 : TI D vwCl (tysOf c0) (RT1 false) Y2 H) (hy2 : Y2 o2 = some 10) (hA2 : ∀ q, pA Y2 q → s.heap.size ≤ q) (hS : va_S (fun q : Nat => s.heap.size ≤ q) s.heap H locs) (hl : lv_has ls 4 [(3, .int 0), (2, .ref o2), (1, .ref o1), (0, .ref b)]) : W p l e room_1 s m #[Value.ref b] below meth c H locs 188 7230 (lw_Z below #[Value.ref b] s) (F0 m 1069 ls []) := by
  have hbA : ¬ (fun q : Nat => s.heap.size ≤ q) b := Nat.not_le.mpr hbl
  have hin : ∀ {i : Int32} {k : Int}, iv i k k → (decide (0 ≤ k) && decide (k < 6)) = true → vp_in i L := fun h1 h2 => by rw [hL6]; exact iv_in h1 (by simpa using h2)
  refine lv_aload_n hx hb dL_law_1069 rfl (lv_at hl 2 rfl) ?_
  refine lv_aload_n hx hb dL_law_1070 rfl (lv_at hl 3 rfl) ?_
  refine lv_iload_n hx hb dL_law_1071 rfl (lv_at hl 0 rfl) ?_
  refine lv_iconst (v := 1) hx hb dL_law_1072 (by decide) ?_
  refine lv_iadd hx hb dL_law_1073 ?_
  refine lv_topi (fun w9 e9 => ?_)
  obtain rfl : w9 = 1 := e9.trans (by decide)
  refine va_sld hx hb hX hbl hbA hS (hin (iv_c (x := (1 : Int32)) (k := 1) (by decide)) (by decide)) dL_law_1074 ?_
  refine lv_aload_n hx hb dL_law_1075 rfl (lv_at hl 3 rfl) ?_
  refine lv_iload_n hx hb dL_law_1076 rfl (lv_at hl 0 rfl) ?_
  refine lv_iconst (v := 2) hx hb dL_law_1077 (by decide) ?_
  refine lv_iadd hx hb dL_law_1078 ?_
  refine lv_topi (fun w9 e9 => ?_)
  obtain rfl : w9 = 2 := e9.trans (by decide)
  refine va_sld hx hb hX hbl hbA hS (hin (iv_c (x := (2 : Int32)) (k := 2) (by decide)) (by decide)) dL_law_1079 ?_
  refine ti_calli (va_runV (As := [.int (xs (1 : Int32).toNatClampNeg), .int (xs (2 : Int32).toNatClampNeg)]) (rest := []) ⟨hx, hb, hml, hown, hts⟩ (t_X9_beside l hT1 hy1 (iv_top _) (iv_top _)) (cwV 2 hts (good_V kw_1190 kw_1191 kw_1192 kw_2 kw_1193) rfl rfl rfl (by decide +kernel) ⟨by decide, by decide⟩) (ti_preV hK hT1 hy1 rfl rfl) rfl rfl hl.1 rfl (lv_room (Nat.le_of_ble_eq_true rfl)) dL_law_1080 ⟨by decide, by decide⟩) hS (fun q h => hA1 q h) (fun r1 H1 locs hB hS _ hk => ?_)
  obtain ⟨_, ir1⟩ := hB
  have hT2 := TI.frame hT2 hdis hk
  generalize H1 = H at hT2 hS ⊢
  refine lv_aload_n hx hb dL_law_1083 rfl (lv_at hl 1 rfl) ?_
  refine lv_aload_n hx hb dL_law_1084 rfl (lv_at hl 3 rfl) ?_
  refine lv_iload_n hx hb dL_law_1085 rfl (lv_at hl 0 rfl) ?_
  refine lv_iconst (v := 1) hx hb dL_law_1086 (by decide) ?_
  refine lv_iadd hx hb dL_law_1087 ?_
  refine lv_topi (fun w9 e9 => ?_)
  obtain rfl : w9 = 1 := e9.trans (by decide)
  refine va_sld hx hb hX hbl hbA hS (hin (iv_c (x := (1 : Int32)) (k := 1) (by decide)) (by decide)) dL_law_1088 ?_
  refine lv_aload_n hx hb dL_law_1089 rfl (lv_at hl 3 rfl) ?_
  refine lv_iload_n hx hb dL_law_1090 rfl (lv_at hl 0 rfl) ?_
  refine lv_iconst (v := 2) hx hb dL_law_1091 (by decide) ?_
  refine lv_iadd hx hb dL_law_1092 ?_
  refine lv_topi (fun w9 e9 => ?_)
  obtain rfl : w9 = 2 := e9.trans (by decide)
  refine va_sld hx hb hX hbl hbA hS (hin (iv_c (x := (2 : Int32)) (k := 2) (by decide)) (by decide)) dL_law_1093 ?_
  refine ti_calli (va_runV (As := [.int (xs (1 : Int32).toNatClampNeg), .int (xs (2 : Int32).toNatClampNeg)]) (rest := [.int r1]) ⟨hx, hb, hml, hown, hts⟩ (t_X10_beside l hT2 hy2 (iv_top _) (iv_top _)) (cwV 2 hts (good_V kw_1198 kw_1199 kw_1200 kw_5 kw_1201) rfl rfl rfl (by decide +kernel) ⟨by decide, by decide⟩) (ti_preV hK hT2 hy2 rfl rfl) rfl rfl hl.1 rfl (lv_room (Nat.le_of_ble_eq_true rfl)) dL_law_1094 ⟨by decide, by decide⟩) hS (fun q h => hA2 q h) (fun r2 H1 locs hB hS _ hk => ?_)
  obtain ⟨_, ir2⟩ := hB
  generalize H1 = H at hS ⊢
  refine lv_icmp_eq (tgt := 2019) hx hb dL_law_1097 (by decide) (fun _ => ?_) (fun h => ?_)
  · exact law_nxt l hL hx hb hr hml hown hts hX hbl hlocks hL6 hS hl
  · exact absurd (Int32.toInt_inj.mp (by have := ir1.1; have := ir1.2; have := ir2.1; have := ir2.2; omega)) h
set_option maxHeartbeats 8000000 in
set_option maxRecDepth 100000 in
theorem law_c28 {p : Program} {e : Env} {s : State} {m : MethodId} {below : List Frame} {meth : Method} {c : Code} (l : Launch) {b L : Nat} {xs : Nat → Int32} (hL : L ≤ 6) (hx : p.tables.exec = Jvm.exec) (hb : c.code = code) (hr : meth.sig.returnType = ret) (hml : c.maxLocals = 4) (hown : s.vm.findClass RL = some m.cls) (hts : ∀ w ∈ wq, w.before #[Value.ref b] s = true) (hX : va_X b L xs s s.heap) (hbl : b < s.heap.size) (hlocks : meth.locks = false) (hL6 : L = 6) {D : va_G} {c0 : Nat → ClassId} {Y1 Y2 : Nat → Option Nat} {o1 o2 : Nat} {H : Heap} {locs : List Loc} {ls : Array Slot} (hK : va_K D vwCl (tysOf c0) s) (hN : nwA s) (hdis : ∀ q, pA Y1 q → pA Y2 q → False) (hT1 : TI D vwCl (tysOf c0) (RT1 false) Y1 H) (hy1 : Y1 o1 = some 9) (hA1 : ∀ q, pA Y1 q → s.heap.size ≤ q) (hT2 : TI D vwCl (tysOf c0) (RT1 false) Y2 H) (hy2 : Y2 o2 = some 10) (hA2 : ∀ q, pA Y2 q → s.heap.size ≤ q) (hS : va_S (fun q : Nat => s.heap.size ≤ q) s.heap H locs) (hl : lv_has ls 4 [(3, .int 0), (2, .ref o2), (1, .ref o1), (0, .ref b)]) : W p l e room_1 s m #[Value.ref b] below meth c H locs 188 7230 (lw_Z below #[Value.ref b] s) (F0 m 1102 ls []) := by
  have hbA : ¬ (fun q : Nat => s.heap.size ≤ q) b := Nat.not_le.mpr hbl
  have hin : ∀ {i : Int32} {k : Int}, iv i k k → (decide (0 ≤ k) && decide (k < 6)) = true → vp_in i L := fun h1 h2 => by rw [hL6]; exact iv_in h1 (by simpa using h2)
  refine lv_aload_n hx hb dL_law_1102 rfl (lv_at hl 2 rfl) ?_
  refine lv_aload_n hx hb dL_law_1103 rfl (lv_at hl 3 rfl) ?_
  refine lv_iload_n hx hb dL_law_1104 rfl (lv_at hl 0 rfl) ?_
  refine lv_iconst (v := 1) hx hb dL_law_1105 (by decide) ?_
  refine lv_iadd hx hb dL_law_1106 ?_
  refine lv_topi (fun w9 e9 => ?_)
  obtain rfl : w9 = 1 := e9.trans (by decide)
  refine va_sld hx hb hX hbl hbA hS (hin (iv_c (x := (1 : Int32)) (k := 1) (by decide)) (by decide)) dL_law_1107 ?_
  refine lv_aload_n hx hb dL_law_1108 rfl (lv_at hl 3 rfl) ?_
  refine lv_iload_n hx hb dL_law_1109 rfl (lv_at hl 0 rfl) ?_
  refine lv_iconst (v := 2) hx hb dL_law_1110 (by decide) ?_
  refine lv_iadd hx hb dL_law_1111 ?_
  refine lv_topi (fun w9 e9 => ?_)
  obtain rfl : w9 = 2 := e9.trans (by decide)
  refine va_sld hx hb hX hbl hbA hS (hin (iv_c (x := (2 : Int32)) (k := 2) (by decide)) (by decide)) dL_law_1112 ?_
  refine lv_aload_n hx hb dL_law_1113 rfl (lv_at hl 3 rfl) ?_
  refine lv_iload_n hx hb dL_law_1114 rfl (lv_at hl 0 rfl) ?_
  refine lv_iconst (v := 3) hx hb dL_law_1115 (by decide) ?_
  refine lv_iadd hx hb dL_law_1116 ?_
  refine lv_topi (fun w9 e9 => ?_)
  obtain rfl : w9 = 3 := e9.trans (by decide)
  refine va_sld hx hb hX hbl hbA hS (hin (iv_c (x := (3 : Int32)) (k := 3) (by decide)) (by decide)) dL_law_1117 ?_
  refine lv_aload_n hx hb dL_law_1118 rfl (lv_at hl 3 rfl) ?_
  refine lv_iload_n hx hb dL_law_1119 rfl (lv_at hl 0 rfl) ?_
  refine lv_iconst (v := 4) hx hb dL_law_1120 (by decide) ?_
  refine lv_iadd hx hb dL_law_1121 ?_
  refine lv_topi (fun w9 e9 => ?_)
  obtain rfl : w9 = 4 := e9.trans (by decide)
  refine va_sld hx hb hX hbl hbA hS (hin (iv_c (x := (4 : Int32)) (k := 4) (by decide)) (by decide)) dL_law_1122 ?_
  refine lv_if_eq (tgt := 1130) hx hb dL_law_1123 (by decide) (fun _ => ?_) (fun _ => ?_)
  · skip
    refine lv_iconst (v := 0) hx hb dL_law_1130 (by decide) ?_
    refine ti_calli (va_runV (As := [.int (xs (1 : Int32).toNatClampNeg), .int (xs (2 : Int32).toNatClampNeg), .int (xs (3 : Int32).toNatClampNeg), .int 0]) (rest := []) ⟨hx, hb, hml, hown, hts⟩ (t_X9_law l hT1 hy1 (iv_top _) (iv_top _) (iv_top _) (iv_w (iv_c (x := (0 : Int32)) (k := 0) (by decide)) (by decide))) (cwV 4 hts (good_V kw_1206 kw_1207 kw_1208 kw_2 kw_1209) rfl rfl rfl (by decide +kernel) ⟨by decide, by decide⟩) (ti_preV hK hT1 hy1 rfl rfl) rfl rfl hl.1 rfl (lv_room (Nat.le_of_ble_eq_true rfl)) dL_law_1131 ⟨by decide, by decide⟩) hS (fun q h => hA1 q h) (fun r1 H1 locs hB hS _ hk => ?_)
    obtain ⟨_, ir1⟩ := hB
    have hT2 := TI.frame hT2 hdis hk
    generalize H1 = H at hT2 hS ⊢
    refine lv_aload_n hx hb dL_law_1134 rfl (lv_at hl 1 rfl) ?_
    refine lv_aload_n hx hb dL_law_1135 rfl (lv_at hl 3 rfl) ?_
    refine lv_iload_n hx hb dL_law_1136 rfl (lv_at hl 0 rfl) ?_
    refine lv_iconst (v := 1) hx hb dL_law_1137 (by decide) ?_
    refine lv_iadd hx hb dL_law_1138 ?_
    refine lv_topi (fun w9 e9 => ?_)
    obtain rfl : w9 = 1 := e9.trans (by decide)
    refine va_sld hx hb hX hbl hbA hS (hin (iv_c (x := (1 : Int32)) (k := 1) (by decide)) (by decide)) dL_law_1139 ?_
    refine lv_aload_n hx hb dL_law_1140 rfl (lv_at hl 3 rfl) ?_
    refine lv_iload_n hx hb dL_law_1141 rfl (lv_at hl 0 rfl) ?_
    refine lv_iconst (v := 2) hx hb dL_law_1142 (by decide) ?_
    refine lv_iadd hx hb dL_law_1143 ?_
    refine lv_topi (fun w9 e9 => ?_)
    obtain rfl : w9 = 2 := e9.trans (by decide)
    refine va_sld hx hb hX hbl hbA hS (hin (iv_c (x := (2 : Int32)) (k := 2) (by decide)) (by decide)) dL_law_1144 ?_
    refine lv_aload_n hx hb dL_law_1145 rfl (lv_at hl 3 rfl) ?_
    refine lv_iload_n hx hb dL_law_1146 rfl (lv_at hl 0 rfl) ?_
    refine lv_iconst (v := 3) hx hb dL_law_1147 (by decide) ?_
    refine lv_iadd hx hb dL_law_1148 ?_
    refine lv_topi (fun w9 e9 => ?_)
    obtain rfl : w9 = 3 := e9.trans (by decide)
    refine va_sld hx hb hX hbl hbA hS (hin (iv_c (x := (3 : Int32)) (k := 3) (by decide)) (by decide)) dL_law_1149 ?_
    refine lv_aload_n hx hb dL_law_1150 rfl (lv_at hl 3 rfl) ?_
    refine lv_iload_n hx hb dL_law_1151 rfl (lv_at hl 0 rfl) ?_
    refine lv_iconst (v := 4) hx hb dL_law_1152 (by decide) ?_
    refine lv_iadd hx hb dL_law_1153 ?_
    refine lv_topi (fun w9 e9 => ?_)
    obtain rfl : w9 = 4 := e9.trans (by decide)
    refine va_sld hx hb hX hbl hbA hS (hin (iv_c (x := (4 : Int32)) (k := 4) (by decide)) (by decide)) dL_law_1154 ?_
    refine lv_if_eq (tgt := 1162) hx hb dL_law_1155 (by decide) (fun _ => ?_) (fun _ => ?_)
    · skip
      refine lv_iconst (v := 0) hx hb dL_law_1162 (by decide) ?_
      refine ti_calli (va_runV (As := [.int (xs (1 : Int32).toNatClampNeg), .int (xs (2 : Int32).toNatClampNeg), .int (xs (3 : Int32).toNatClampNeg), .int 0]) (rest := [.int r1]) ⟨hx, hb, hml, hown, hts⟩ (t_X10_law l hT2 hy2 (iv_top _) (iv_top _) (iv_top _) (iv_w (iv_c (x := (0 : Int32)) (k := 0) (by decide)) (by decide))) (cwV 4 hts (good_V kw_1214 kw_1215 kw_1216 kw_5 kw_1217) rfl rfl rfl (by decide +kernel) ⟨by decide, by decide⟩) (ti_preV hK hT2 hy2 rfl rfl) rfl rfl hl.1 rfl (lv_room (Nat.le_of_ble_eq_true rfl)) dL_law_1163 ⟨by decide, by decide⟩) hS (fun q h => hA2 q h) (fun r2 H1 locs hB hS _ hk => ?_)
      obtain ⟨_, ir2⟩ := hB
      generalize H1 = H at hS ⊢
      refine lv_icmp_eq (tgt := 2019) hx hb dL_law_1166 (by decide) (fun _ => ?_) (fun h => ?_)
      · exact law_nxt l hL hx hb hr hml hown hts hX hbl hlocks hL6 hS hl
      · exact absurd (Int32.toInt_inj.mp (by have := ir1.1; have := ir1.2; have := ir2.1; have := ir2.2; omega)) h
    · skip
      refine lv_iconst (v := 1) hx hb dL_law_1158 (by decide) ?_
      refine lv_goto (tgt := 1163) hx hb dL_law_1159 (by decide) ?_
      refine ti_calli (va_runV (As := [.int (xs (1 : Int32).toNatClampNeg), .int (xs (2 : Int32).toNatClampNeg), .int (xs (3 : Int32).toNatClampNeg), .int 1]) (rest := [.int r1]) ⟨hx, hb, hml, hown, hts⟩ (t_X10_law l hT2 hy2 (iv_top _) (iv_top _) (iv_top _) (iv_w (iv_c (x := (1 : Int32)) (k := 1) (by decide)) (by decide))) (cwV 4 hts (good_V kw_1214 kw_1215 kw_1216 kw_5 kw_1217) rfl rfl rfl (by decide +kernel) ⟨by decide, by decide⟩) (ti_preV hK hT2 hy2 rfl rfl) rfl rfl hl.1 rfl (lv_room (Nat.le_of_ble_eq_true rfl)) dL_law_1163 ⟨by decide, by decide⟩) hS (fun q h => hA2 q h) (fun r2 H1 locs hB hS _ hk => ?_)
      obtain ⟨_, ir2⟩ := hB
      generalize H1 = H at hS ⊢
      refine lv_icmp_eq (tgt := 2019) hx hb dL_law_1166 (by decide) (fun _ => ?_) (fun h => ?_)
      · exact law_nxt l hL hx hb hr hml hown hts hX hbl hlocks hL6 hS hl
      · exact absurd (Int32.toInt_inj.mp (by have := ir1.1; have := ir1.2; have := ir2.1; have := ir2.2; omega)) h
  · skip
    refine lv_iconst (v := 1) hx hb dL_law_1126 (by decide) ?_
    refine lv_goto (tgt := 1131) hx hb dL_law_1127 (by decide) ?_
    refine ti_calli (va_runV (As := [.int (xs (1 : Int32).toNatClampNeg), .int (xs (2 : Int32).toNatClampNeg), .int (xs (3 : Int32).toNatClampNeg), .int 1]) (rest := []) ⟨hx, hb, hml, hown, hts⟩ (t_X9_law l hT1 hy1 (iv_top _) (iv_top _) (iv_top _) (iv_w (iv_c (x := (1 : Int32)) (k := 1) (by decide)) (by decide))) (cwV 4 hts (good_V kw_1206 kw_1207 kw_1208 kw_2 kw_1209) rfl rfl rfl (by decide +kernel) ⟨by decide, by decide⟩) (ti_preV hK hT1 hy1 rfl rfl) rfl rfl hl.1 rfl (lv_room (Nat.le_of_ble_eq_true rfl)) dL_law_1131 ⟨by decide, by decide⟩) hS (fun q h => hA1 q h) (fun r1 H1 locs hB hS _ hk => ?_)
    obtain ⟨_, ir1⟩ := hB
    have hT2 := TI.frame hT2 hdis hk
    generalize H1 = H at hT2 hS ⊢
    refine lv_aload_n hx hb dL_law_1134 rfl (lv_at hl 1 rfl) ?_
    refine lv_aload_n hx hb dL_law_1135 rfl (lv_at hl 3 rfl) ?_
    refine lv_iload_n hx hb dL_law_1136 rfl (lv_at hl 0 rfl) ?_
    refine lv_iconst (v := 1) hx hb dL_law_1137 (by decide) ?_
    refine lv_iadd hx hb dL_law_1138 ?_
    refine lv_topi (fun w9 e9 => ?_)
    obtain rfl : w9 = 1 := e9.trans (by decide)
    refine va_sld hx hb hX hbl hbA hS (hin (iv_c (x := (1 : Int32)) (k := 1) (by decide)) (by decide)) dL_law_1139 ?_
    refine lv_aload_n hx hb dL_law_1140 rfl (lv_at hl 3 rfl) ?_
    refine lv_iload_n hx hb dL_law_1141 rfl (lv_at hl 0 rfl) ?_
    refine lv_iconst (v := 2) hx hb dL_law_1142 (by decide) ?_
    refine lv_iadd hx hb dL_law_1143 ?_
    refine lv_topi (fun w9 e9 => ?_)
    obtain rfl : w9 = 2 := e9.trans (by decide)
    refine va_sld hx hb hX hbl hbA hS (hin (iv_c (x := (2 : Int32)) (k := 2) (by decide)) (by decide)) dL_law_1144 ?_
    refine lv_aload_n hx hb dL_law_1145 rfl (lv_at hl 3 rfl) ?_
    refine lv_iload_n hx hb dL_law_1146 rfl (lv_at hl 0 rfl) ?_
    refine lv_iconst (v := 3) hx hb dL_law_1147 (by decide) ?_
    refine lv_iadd hx hb dL_law_1148 ?_
    refine lv_topi (fun w9 e9 => ?_)
    obtain rfl : w9 = 3 := e9.trans (by decide)
    refine va_sld hx hb hX hbl hbA hS (hin (iv_c (x := (3 : Int32)) (k := 3) (by decide)) (by decide)) dL_law_1149 ?_
    refine lv_aload_n hx hb dL_law_1150 rfl (lv_at hl 3 rfl) ?_
    refine lv_iload_n hx hb dL_law_1151 rfl (lv_at hl 0 rfl) ?_
    refine lv_iconst (v := 4) hx hb dL_law_1152 (by decide) ?_
    refine lv_iadd hx hb dL_law_1153 ?_
    refine lv_topi (fun w9 e9 => ?_)
    obtain rfl : w9 = 4 := e9.trans (by decide)
    refine va_sld hx hb hX hbl hbA hS (hin (iv_c (x := (4 : Int32)) (k := 4) (by decide)) (by decide)) dL_law_1154 ?_
    refine lv_if_eq (tgt := 1162) hx hb dL_law_1155 (by decide) (fun _ => ?_) (fun _ => ?_)
    · skip
      refine lv_iconst (v := 0) hx hb dL_law_1162 (by decide) ?_
      refine ti_calli (va_runV (As := [.int (xs (1 : Int32).toNatClampNeg), .int (xs (2 : Int32).toNatClampNeg), .int (xs (3 : Int32).toNatClampNeg), .int 0]) (rest := [.int r1]) ⟨hx, hb, hml, hown, hts⟩ (t_X10_law l hT2 hy2 (iv_top _) (iv_top _) (iv_top _) (iv_w (iv_c (x := (0 : Int32)) (k := 0) (by decide)) (by decide))) (cwV 4 hts (good_V kw_1214 kw_1215 kw_1216 kw_5 kw_1217) rfl rfl rfl (by decide +kernel) ⟨by decide, by decide⟩) (ti_preV hK hT2 hy2 rfl rfl) rfl rfl hl.1 rfl (lv_room (Nat.le_of_ble_eq_true rfl)) dL_law_1163 ⟨by decide, by decide⟩) hS (fun q h => hA2 q h) (fun r2 H1 locs hB hS _ hk => ?_)
      obtain ⟨_, ir2⟩ := hB
      generalize H1 = H at hS ⊢
      refine lv_icmp_eq (tgt := 2019) hx hb dL_law_1166 (by decide) (fun _ => ?_) (fun h => ?_)
      · exact law_nxt l hL hx hb hr hml hown hts hX hbl hlocks hL6 hS hl
      · exact absurd (Int32.toInt_inj.mp (by have := ir1.1; have := ir1.2; have := ir2.1; have := ir2.2; omega)) h
    · skip
      refine lv_iconst (v := 1) hx hb dL_law_1158 (by decide) ?_
      refine lv_goto (tgt := 1163) hx hb dL_law_1159 (by decide) ?_
      refine ti_calli (va_runV (As := [.int (xs (1 : Int32).toNatClampNeg), .int (xs (2 : Int32).toNatClampNeg), .int (xs (3 : Int32).toNatClampNeg), .int 1]) (rest := [.int r1]) ⟨hx, hb, hml, hown, hts⟩ (t_X10_law l hT2 hy2 (iv_top _) (iv_top _) (iv_top _) (iv_w (iv_c (x := (1 : Int32)) (k := 1) (by decide)) (by decide))) (cwV 4 hts (good_V kw_1214 kw_1215 kw_1216 kw_5 kw_1217) rfl rfl rfl (by decide +kernel) ⟨by decide, by decide⟩) (ti_preV hK hT2 hy2 rfl rfl) rfl rfl hl.1 rfl (lv_room (Nat.le_of_ble_eq_true rfl)) dL_law_1163 ⟨by decide, by decide⟩) hS (fun q h => hA2 q h) (fun r2 H1 locs hB hS _ hk => ?_)
      obtain ⟨_, ir2⟩ := hB
      generalize H1 = H at hS ⊢
      refine lv_icmp_eq (tgt := 2019) hx hb dL_law_1166 (by decide) (fun _ => ?_) (fun h => ?_)
      · exact law_nxt l hL hx hb hr hml hown hts hX hbl hlocks hL6 hS hl
      · exact absurd (Int32.toInt_inj.mp (by have := ir1.1; have := ir1.2; have := ir2.1; have := ir2.2; omega)) h
set_option maxHeartbeats 8000000 in
set_option maxRecDepth 100000 in
theorem law_c29 {p : Program} {e : Env} {s : State} {m : MethodId} {below : List Frame} {meth : Method} {c : Code} (l : Launch) {b L : Nat} {xs : Nat → Int32} (hL : L ≤ 6) (hx : p.tables.exec = Jvm.exec) (hb : c.code = code) (hr : meth.sig.returnType = ret) (hml : c.maxLocals = 4) (hown : s.vm.findClass RL = some m.cls) (hts : ∀ w ∈ wq, w.before #[Value.ref b] s = true) (hX : va_X b L xs s s.heap) (hbl : b < s.heap.size) (hlocks : meth.locks = false) (hL6 : L = 6) {D : va_G} {c0 : Nat → ClassId} {Y1 Y2 : Nat → Option Nat} {o1 o2 : Nat} {H : Heap} {locs : List Loc} {ls : Array Slot} (hK : va_K D vwCl (tysOf c0) s) (hN : nwA s) (hdis : ∀ q, pA Y1 q → pA Y2 q → False) (hT1 : TI D vwCl (tysOf c0) (RT1 false) Y1 H) (hy1 : Y1 o1 = some 9) (hA1 : ∀ q, pA Y1 q → s.heap.size ≤ q) (hT2 : TI D vwCl (tysOf c0) (RT1 false) Y2 H) (hy2 : Y2 o2 = some 10) (hA2 : ∀ q, pA Y2 q → s.heap.size ≤ q) (hS : va_S (fun q : Nat => s.heap.size ≤ q) s.heap H locs) (hl : lv_has ls 4 [(3, .int 0), (2, .ref o2), (1, .ref o1), (0, .ref b)]) : W p l e room_1 s m #[Value.ref b] below meth c H locs 188 7230 (lw_Z below #[Value.ref b] s) (F0 m 1171 ls []) := by
  have hbA : ¬ (fun q : Nat => s.heap.size ≤ q) b := Nat.not_le.mpr hbl
  have hin : ∀ {i : Int32} {k : Int}, iv i k k → (decide (0 ≤ k) && decide (k < 6)) = true → vp_in i L := fun h1 h2 => by rw [hL6]; exact iv_in h1 (by simpa using h2)
  refine lv_aload_n hx hb dL_law_1171 rfl (lv_at hl 2 rfl) ?_
  refine lv_aload_n hx hb dL_law_1172 rfl (lv_at hl 3 rfl) ?_
  refine lv_iload_n hx hb dL_law_1173 rfl (lv_at hl 0 rfl) ?_
  refine lv_iconst (v := 1) hx hb dL_law_1174 (by decide) ?_
  refine lv_iadd hx hb dL_law_1175 ?_
  refine lv_topi (fun w9 e9 => ?_)
  obtain rfl : w9 = 1 := e9.trans (by decide)
  refine va_sld hx hb hX hbl hbA hS (hin (iv_c (x := (1 : Int32)) (k := 1) (by decide)) (by decide)) dL_law_1176 ?_
  refine ti_calli (va_runV (As := [.int (xs (1 : Int32).toNatClampNeg)]) (rest := []) ⟨hx, hb, hml, hown, hts⟩ (t_X9_laws l hT1 hy1 (iv_top _)) (cwV 1 hts (good_V kw_1219 kw_1220 kw_1221 kw_2 kw_1222) rfl rfl rfl (by decide +kernel) ⟨by decide, by decide⟩) (ti_preV hK hT1 hy1 rfl rfl) rfl rfl hl.1 rfl (lv_room (Nat.le_of_ble_eq_true rfl)) dL_law_1177 ⟨by decide, by decide⟩) hS (fun q h => hA1 q h) (fun r1 H1 locs hB hS _ hk => ?_)
  obtain ⟨_, ir1⟩ := hB
  have hT2 := TI.frame hT2 hdis hk
  generalize H1 = H at hT2 hS ⊢
  refine lv_aload_n hx hb dL_law_1180 rfl (lv_at hl 1 rfl) ?_
  refine lv_aload_n hx hb dL_law_1181 rfl (lv_at hl 3 rfl) ?_
  refine lv_iload_n hx hb dL_law_1182 rfl (lv_at hl 0 rfl) ?_
  refine lv_iconst (v := 1) hx hb dL_law_1183 (by decide) ?_
  refine lv_iadd hx hb dL_law_1184 ?_
  refine lv_topi (fun w9 e9 => ?_)
  obtain rfl : w9 = 1 := e9.trans (by decide)
  refine va_sld hx hb hX hbl hbA hS (hin (iv_c (x := (1 : Int32)) (k := 1) (by decide)) (by decide)) dL_law_1185 ?_
  refine ti_calli (va_runV (As := [.int (xs (1 : Int32).toNatClampNeg)]) (rest := [.int r1]) ⟨hx, hb, hml, hown, hts⟩ (t_X10_laws l hT2 hy2 (iv_top _)) (cwV 1 hts (good_V kw_1227 kw_1228 kw_1229 kw_5 kw_1230) rfl rfl rfl (by decide +kernel) ⟨by decide, by decide⟩) (ti_preV hK hT2 hy2 rfl rfl) rfl rfl hl.1 rfl (lv_room (Nat.le_of_ble_eq_true rfl)) dL_law_1186 ⟨by decide, by decide⟩) hS (fun q h => hA2 q h) (fun r2 H1 locs hB hS _ hk => ?_)
  obtain ⟨_, ir2⟩ := hB
  generalize H1 = H at hS ⊢
  refine lv_icmp_eq (tgt := 2019) hx hb dL_law_1189 (by decide) (fun _ => ?_) (fun h => ?_)
  · exact law_nxt l hL hx hb hr hml hown hts hX hbl hlocks hL6 hS hl
  · exact absurd (Int32.toInt_inj.mp (by have := ir1.1; have := ir1.2; have := ir2.1; have := ir2.2; omega)) h
set_option maxHeartbeats 8000000 in
set_option maxRecDepth 100000 in
theorem law_c30 {p : Program} {e : Env} {s : State} {m : MethodId} {below : List Frame} {meth : Method} {c : Code} (l : Launch) {b L : Nat} {xs : Nat → Int32} (hL : L ≤ 6) (hx : p.tables.exec = Jvm.exec) (hb : c.code = code) (hr : meth.sig.returnType = ret) (hml : c.maxLocals = 4) (hown : s.vm.findClass RL = some m.cls) (hts : ∀ w ∈ wq, w.before #[Value.ref b] s = true) (hX : va_X b L xs s s.heap) (hbl : b < s.heap.size) (hlocks : meth.locks = false) (hL6 : L = 6) {D : va_G} {c0 : Nat → ClassId} {Y1 Y2 : Nat → Option Nat} {o1 o2 : Nat} {H : Heap} {locs : List Loc} {ls : Array Slot} (hK : va_K D vwCl (tysOf c0) s) (hN : nwA s) (hdis : ∀ q, pA Y1 q → pA Y2 q → False) (hT1 : TI D vwCl (tysOf c0) (RT1 false) Y1 H) (hy1 : Y1 o1 = some 9) (hA1 : ∀ q, pA Y1 q → s.heap.size ≤ q) (hT2 : TI D vwCl (tysOf c0) (RT1 false) Y2 H) (hy2 : Y2 o2 = some 10) (hA2 : ∀ q, pA Y2 q → s.heap.size ≤ q) (hS : va_S (fun q : Nat => s.heap.size ≤ q) s.heap H locs) (hl : lv_has ls 4 [(3, .int 0), (2, .ref o2), (1, .ref o1), (0, .ref b)]) : W p l e room_1 s m #[Value.ref b] below meth c H locs 188 7230 (lw_Z below #[Value.ref b] s) (F0 m 1194 ls []) := by
  have hbA : ¬ (fun q : Nat => s.heap.size ≤ q) b := Nat.not_le.mpr hbl
  have hin : ∀ {i : Int32} {k : Int}, iv i k k → (decide (0 ≤ k) && decide (k < 6)) = true → vp_in i L := fun h1 h2 => by rw [hL6]; exact iv_in h1 (by simpa using h2)
  refine lv_aload_n hx hb dL_law_1194 rfl (lv_at hl 2 rfl) ?_
  refine lv_aload_n hx hb dL_law_1195 rfl (lv_at hl 3 rfl) ?_
  refine lv_iload_n hx hb dL_law_1196 rfl (lv_at hl 0 rfl) ?_
  refine lv_iconst (v := 1) hx hb dL_law_1197 (by decide) ?_
  refine lv_iadd hx hb dL_law_1198 ?_
  refine lv_topi (fun w9 e9 => ?_)
  obtain rfl : w9 = 1 := e9.trans (by decide)
  refine va_sld hx hb hX hbl hbA hS (hin (iv_c (x := (1 : Int32)) (k := 1) (by decide)) (by decide)) dL_law_1199 ?_
  refine lv_aload_n hx hb dL_law_1200 rfl (lv_at hl 3 rfl) ?_
  refine lv_iload_n hx hb dL_law_1201 rfl (lv_at hl 0 rfl) ?_
  refine lv_iconst (v := 2) hx hb dL_law_1202 (by decide) ?_
  refine lv_iadd hx hb dL_law_1203 ?_
  refine lv_topi (fun w9 e9 => ?_)
  obtain rfl : w9 = 2 := e9.trans (by decide)
  refine va_sld hx hb hX hbl hbA hS (hin (iv_c (x := (2 : Int32)) (k := 2) (by decide)) (by decide)) dL_law_1204 ?_
  refine ti_calli (va_runV (As := [.int (xs (1 : Int32).toNatClampNeg), .int (xs (2 : Int32).toNatClampNeg)]) (rest := []) ⟨hx, hb, hml, hown, hts⟩ (t_X9_leaves l hT1 hy1 (iv_top _) (iv_top _)) (cwV 2 hts (good_V kw_1231 kw_1232 kw_1233 kw_2 kw_1234) rfl rfl rfl (by decide +kernel) ⟨by decide, by decide⟩) (ti_preV hK hT1 hy1 rfl rfl) rfl rfl hl.1 rfl (lv_room (Nat.le_of_ble_eq_true rfl)) dL_law_1205 ⟨by decide, by decide⟩) hS (fun q h => hA1 q h) (fun r1 H1 locs hB hS _ hk => ?_)
  obtain ⟨_, ir1⟩ := hB
  have hT2 := TI.frame hT2 hdis hk
  generalize H1 = H at hT2 hS ⊢
  refine lv_aload_n hx hb dL_law_1208 rfl (lv_at hl 1 rfl) ?_
  refine lv_aload_n hx hb dL_law_1209 rfl (lv_at hl 3 rfl) ?_
  refine lv_iload_n hx hb dL_law_1210 rfl (lv_at hl 0 rfl) ?_
  refine lv_iconst (v := 1) hx hb dL_law_1211 (by decide) ?_
  refine lv_iadd hx hb dL_law_1212 ?_
  refine lv_topi (fun w9 e9 => ?_)
  obtain rfl : w9 = 1 := e9.trans (by decide)
  refine va_sld hx hb hX hbl hbA hS (hin (iv_c (x := (1 : Int32)) (k := 1) (by decide)) (by decide)) dL_law_1213 ?_
  refine lv_aload_n hx hb dL_law_1214 rfl (lv_at hl 3 rfl) ?_
  refine lv_iload_n hx hb dL_law_1215 rfl (lv_at hl 0 rfl) ?_
  refine lv_iconst (v := 2) hx hb dL_law_1216 (by decide) ?_
  refine lv_iadd hx hb dL_law_1217 ?_
  refine lv_topi (fun w9 e9 => ?_)
  obtain rfl : w9 = 2 := e9.trans (by decide)
  refine va_sld hx hb hX hbl hbA hS (hin (iv_c (x := (2 : Int32)) (k := 2) (by decide)) (by decide)) dL_law_1218 ?_
  refine ti_calli (va_runV (As := [.int (xs (1 : Int32).toNatClampNeg), .int (xs (2 : Int32).toNatClampNeg)]) (rest := [.int r1]) ⟨hx, hb, hml, hown, hts⟩ (t_X10_leaves l hT2 hy2 (iv_top _) (iv_top _)) (cwV 2 hts (good_V kw_1235 kw_1236 kw_1237 kw_5 kw_1238) rfl rfl rfl (by decide +kernel) ⟨by decide, by decide⟩) (ti_preV hK hT2 hy2 rfl rfl) rfl rfl hl.1 rfl (lv_room (Nat.le_of_ble_eq_true rfl)) dL_law_1219 ⟨by decide, by decide⟩) hS (fun q h => hA2 q h) (fun r2 H1 locs hB hS _ hk => ?_)
  obtain ⟨_, ir2⟩ := hB
  generalize H1 = H at hS ⊢
  refine lv_icmp_eq (tgt := 2019) hx hb dL_law_1222 (by decide) (fun _ => ?_) (fun h => ?_)
  · exact law_nxt l hL hx hb hr hml hown hts hX hbl hlocks hL6 hS hl
  · exact absurd (Int32.toInt_inj.mp (by have := ir1.1; have := ir1.2; have := ir2.1; have := ir2.2; omega)) h
set_option maxHeartbeats 8000000 in
set_option maxRecDepth 100000 in
theorem law_c31 {p : Program} {e : Env} {s : State} {m : MethodId} {below : List Frame} {meth : Method} {c : Code} (l : Launch) {b L : Nat} {xs : Nat → Int32} (hL : L ≤ 6) (hx : p.tables.exec = Jvm.exec) (hb : c.code = code) (hr : meth.sig.returnType = ret) (hml : c.maxLocals = 4) (hown : s.vm.findClass RL = some m.cls) (hts : ∀ w ∈ wq, w.before #[Value.ref b] s = true) (hX : va_X b L xs s s.heap) (hbl : b < s.heap.size) (hlocks : meth.locks = false) (hL6 : L = 6) {D : va_G} {c0 : Nat → ClassId} {Y1 Y2 : Nat → Option Nat} {o1 o2 : Nat} {H : Heap} {locs : List Loc} {ls : Array Slot} (hK : va_K D vwCl (tysOf c0) s) (hN : nwA s) (hdis : ∀ q, pA Y1 q → pA Y2 q → False) (hT1 : TI D vwCl (tysOf c0) (RT1 false) Y1 H) (hy1 : Y1 o1 = some 9) (hA1 : ∀ q, pA Y1 q → s.heap.size ≤ q) (hT2 : TI D vwCl (tysOf c0) (RT1 false) Y2 H) (hy2 : Y2 o2 = some 10) (hA2 : ∀ q, pA Y2 q → s.heap.size ≤ q) (hS : va_S (fun q : Nat => s.heap.size ≤ q) s.heap H locs) (hl : lv_has ls 4 [(3, .int 0), (2, .ref o2), (1, .ref o1), (0, .ref b)]) : W p l e room_1 s m #[Value.ref b] below meth c H locs 188 7230 (lw_Z below #[Value.ref b] s) (F0 m 1227 ls []) := by
  have hbA : ¬ (fun q : Nat => s.heap.size ≤ q) b := Nat.not_le.mpr hbl
  have hin : ∀ {i : Int32} {k : Int}, iv i k k → (decide (0 ≤ k) && decide (k < 6)) = true → vp_in i L := fun h1 h2 => by rw [hL6]; exact iv_in h1 (by simpa using h2)
  refine lv_aload_n hx hb dL_law_1227 rfl (lv_at hl 2 rfl) ?_
  refine lv_aload_n hx hb dL_law_1228 rfl (lv_at hl 3 rfl) ?_
  refine lv_iload_n hx hb dL_law_1229 rfl (lv_at hl 0 rfl) ?_
  refine lv_iconst (v := 1) hx hb dL_law_1230 (by decide) ?_
  refine lv_iadd hx hb dL_law_1231 ?_
  refine lv_topi (fun w9 e9 => ?_)
  obtain rfl : w9 = 1 := e9.trans (by decide)
  refine va_sld hx hb hX hbl hbA hS (hin (iv_c (x := (1 : Int32)) (k := 1) (by decide)) (by decide)) dL_law_1232 ?_
  refine lv_aload_n hx hb dL_law_1233 rfl (lv_at hl 3 rfl) ?_
  refine lv_iload_n hx hb dL_law_1234 rfl (lv_at hl 0 rfl) ?_
  refine lv_iconst (v := 2) hx hb dL_law_1235 (by decide) ?_
  refine lv_iadd hx hb dL_law_1236 ?_
  refine lv_topi (fun w9 e9 => ?_)
  obtain rfl : w9 = 2 := e9.trans (by decide)
  refine va_sld hx hb hX hbl hbA hS (hin (iv_c (x := (2 : Int32)) (k := 2) (by decide)) (by decide)) dL_law_1237 ?_
  refine ti_calli (va_runV (As := [.int (xs (1 : Int32).toNatClampNeg), .int (xs (2 : Int32).toNatClampNeg)]) (rest := []) ⟨hx, hb, hml, hown, hts⟩ (t_X9_breaks l hT1 hy1 (iv_top _) (iv_top _)) (cwV 2 hts (good_V kw_1239 kw_1240 kw_1241 kw_2 kw_1242) rfl rfl rfl (by decide +kernel) ⟨by decide, by decide⟩) (ti_preV hK hT1 hy1 rfl rfl) rfl rfl hl.1 rfl (lv_room (Nat.le_of_ble_eq_true rfl)) dL_law_1238 ⟨by decide, by decide⟩) hS (fun q h => hA1 q h) (fun r1 H1 locs hB hS _ hk => ?_)
  obtain ⟨_, ir1⟩ := hB
  have hT2 := TI.frame hT2 hdis hk
  generalize H1 = H at hT2 hS ⊢
  refine lv_aload_n hx hb dL_law_1241 rfl (lv_at hl 1 rfl) ?_
  refine lv_aload_n hx hb dL_law_1242 rfl (lv_at hl 3 rfl) ?_
  refine lv_iload_n hx hb dL_law_1243 rfl (lv_at hl 0 rfl) ?_
  refine lv_iconst (v := 1) hx hb dL_law_1244 (by decide) ?_
  refine lv_iadd hx hb dL_law_1245 ?_
  refine lv_topi (fun w9 e9 => ?_)
  obtain rfl : w9 = 1 := e9.trans (by decide)
  refine va_sld hx hb hX hbl hbA hS (hin (iv_c (x := (1 : Int32)) (k := 1) (by decide)) (by decide)) dL_law_1246 ?_
  refine lv_aload_n hx hb dL_law_1247 rfl (lv_at hl 3 rfl) ?_
  refine lv_iload_n hx hb dL_law_1248 rfl (lv_at hl 0 rfl) ?_
  refine lv_iconst (v := 2) hx hb dL_law_1249 (by decide) ?_
  refine lv_iadd hx hb dL_law_1250 ?_
  refine lv_topi (fun w9 e9 => ?_)
  obtain rfl : w9 = 2 := e9.trans (by decide)
  refine va_sld hx hb hX hbl hbA hS (hin (iv_c (x := (2 : Int32)) (k := 2) (by decide)) (by decide)) dL_law_1251 ?_
  refine ti_calli (va_runV (As := [.int (xs (1 : Int32).toNatClampNeg), .int (xs (2 : Int32).toNatClampNeg)]) (rest := [.int r1]) ⟨hx, hb, hml, hown, hts⟩ (t_X10_breaks l hT2 hy2 (iv_top _) (iv_top _)) (cwV 2 hts (good_V kw_1247 kw_1248 kw_1249 kw_5 kw_1250) rfl rfl rfl (by decide +kernel) ⟨by decide, by decide⟩) (ti_preV hK hT2 hy2 rfl rfl) rfl rfl hl.1 rfl (lv_room (Nat.le_of_ble_eq_true rfl)) dL_law_1252 ⟨by decide, by decide⟩) hS (fun q h => hA2 q h) (fun r2 H1 locs hB hS _ hk => ?_)
  obtain ⟨_, ir2⟩ := hB
  generalize H1 = H at hS ⊢
  refine lv_icmp_eq (tgt := 2019) hx hb dL_law_1255 (by decide) (fun _ => ?_) (fun h => ?_)
  · exact law_nxt l hL hx hb hr hml hown hts hX hbl hlocks hL6 hS hl
  · exact absurd (Int32.toInt_inj.mp (by have := ir1.1; have := ir1.2; have := ir2.1; have := ir2.2; omega)) h
set_option maxHeartbeats 8000000 in
set_option maxRecDepth 100000 in
theorem law_c32 {p : Program} {e : Env} {s : State} {m : MethodId} {below : List Frame} {meth : Method} {c : Code} (l : Launch) {b L : Nat} {xs : Nat → Int32} (hL : L ≤ 6) (hx : p.tables.exec = Jvm.exec) (hb : c.code = code) (hr : meth.sig.returnType = ret) (hml : c.maxLocals = 4) (hown : s.vm.findClass RL = some m.cls) (hts : ∀ w ∈ wq, w.before #[Value.ref b] s = true) (hX : va_X b L xs s s.heap) (hbl : b < s.heap.size) (hlocks : meth.locks = false) (hL6 : L = 6) {D : va_G} {c0 : Nat → ClassId} {Y1 Y2 : Nat → Option Nat} {o1 o2 : Nat} {H : Heap} {locs : List Loc} {ls : Array Slot} (hK : va_K D vwCl (tysOf c0) s) (hN : nwA s) (hdis : ∀ q, pA Y1 q → pA Y2 q → False) (hT1 : TI D vwCl (tysOf c0) (RT1 false) Y1 H) (hy1 : Y1 o1 = some 9) (hA1 : ∀ q, pA Y1 q → s.heap.size ≤ q) (hT2 : TI D vwCl (tysOf c0) (RT1 false) Y2 H) (hy2 : Y2 o2 = some 10) (hA2 : ∀ q, pA Y2 q → s.heap.size ≤ q) (hS : va_S (fun q : Nat => s.heap.size ≤ q) s.heap H locs) (hl : lv_has ls 4 [(3, .int 0), (2, .ref o2), (1, .ref o1), (0, .ref b)]) : W p l e room_1 s m #[Value.ref b] below meth c H locs 188 7230 (lw_Z below #[Value.ref b] s) (F0 m 1260 ls []) := by
  have hbA : ¬ (fun q : Nat => s.heap.size ≤ q) b := Nat.not_le.mpr hbl
  have hin : ∀ {i : Int32} {k : Int}, iv i k k → (decide (0 ≤ k) && decide (k < 6)) = true → vp_in i L := fun h1 h2 => by rw [hL6]; exact iv_in h1 (by simpa using h2)
  refine lv_aload_n hx hb dL_law_1260 rfl (lv_at hl 2 rfl) ?_
  refine lv_aload_n hx hb dL_law_1261 rfl (lv_at hl 3 rfl) ?_
  refine lv_iload_n hx hb dL_law_1262 rfl (lv_at hl 0 rfl) ?_
  refine lv_iconst (v := 1) hx hb dL_law_1263 (by decide) ?_
  refine lv_iadd hx hb dL_law_1264 ?_
  refine lv_topi (fun w9 e9 => ?_)
  obtain rfl : w9 = 1 := e9.trans (by decide)
  refine va_sld hx hb hX hbl hbA hS (hin (iv_c (x := (1 : Int32)) (k := 1) (by decide)) (by decide)) dL_law_1265 ?_
  refine ti_calli (va_runV (As := [.int (xs (1 : Int32).toNatClampNeg)]) (rest := []) ⟨hx, hb, hml, hown, hts⟩ (t_X9_third l hT1 hy1 (iv_top _)) (cwV 1 hts (good_V kw_1255 kw_1256 kw_1257 kw_2 kw_1258) rfl rfl rfl (by decide +kernel) ⟨by decide, by decide⟩) (ti_preV hK hT1 hy1 rfl rfl) rfl rfl hl.1 rfl (lv_room (Nat.le_of_ble_eq_true rfl)) dL_law_1266 ⟨by decide, by decide⟩) hS (fun q h => hA1 q h) (fun r1 H1 locs hB hS _ hk => ?_)
  obtain ⟨_, ir1⟩ := hB
  have hT2 := TI.frame hT2 hdis hk
  generalize H1 = H at hT2 hS ⊢
  refine lv_aload_n hx hb dL_law_1269 rfl (lv_at hl 1 rfl) ?_
  refine lv_aload_n hx hb dL_law_1270 rfl (lv_at hl 3 rfl) ?_
  refine lv_iload_n hx hb dL_law_1271 rfl (lv_at hl 0 rfl) ?_
  refine lv_iconst (v := 1) hx hb dL_law_1272 (by decide) ?_
  refine lv_iadd hx hb dL_law_1273 ?_
  refine lv_topi (fun w9 e9 => ?_)
  obtain rfl : w9 = 1 := e9.trans (by decide)
  refine va_sld hx hb hX hbl hbA hS (hin (iv_c (x := (1 : Int32)) (k := 1) (by decide)) (by decide)) dL_law_1274 ?_
  refine ti_calli (va_runV (As := [.int (xs (1 : Int32).toNatClampNeg)]) (rest := [.int r1]) ⟨hx, hb, hml, hown, hts⟩ (t_X10_third l hT2 hy2 (iv_top _)) (cwV 1 hts (good_V kw_1259 kw_1260 kw_1261 kw_5 kw_1262) rfl rfl rfl (by decide +kernel) ⟨by decide, by decide⟩) (ti_preV hK hT2 hy2 rfl rfl) rfl rfl hl.1 rfl (lv_room (Nat.le_of_ble_eq_true rfl)) dL_law_1275 ⟨by decide, by decide⟩) hS (fun q h => hA2 q h) (fun r2 H1 locs hB hS _ hk => ?_)
  obtain ⟨_, ir2⟩ := hB
  generalize H1 = H at hS ⊢
  refine lv_icmp_eq (tgt := 2019) hx hb dL_law_1278 (by decide) (fun _ => ?_) (fun h => ?_)
  · exact law_nxt l hL hx hb hr hml hown hts hX hbl hlocks hL6 hS hl
  · exact absurd (Int32.toInt_inj.mp (by have := ir1.1; have := ir1.2; have := ir2.1; have := ir2.2; omega)) h
set_option maxHeartbeats 8000000 in
set_option maxRecDepth 100000 in
theorem law_c33 {p : Program} {e : Env} {s : State} {m : MethodId} {below : List Frame} {meth : Method} {c : Code} (l : Launch) {b L : Nat} {xs : Nat → Int32} (hL : L ≤ 6) (hx : p.tables.exec = Jvm.exec) (hb : c.code = code) (hr : meth.sig.returnType = ret) (hml : c.maxLocals = 4) (hown : s.vm.findClass RL = some m.cls) (hts : ∀ w ∈ wq, w.before #[Value.ref b] s = true) (hX : va_X b L xs s s.heap) (hbl : b < s.heap.size) (hlocks : meth.locks = false) (hL6 : L = 6) {D : va_G} {c0 : Nat → ClassId} {Y1 Y2 : Nat → Option Nat} {o1 o2 : Nat} {H : Heap} {locs : List Loc} {ls : Array Slot} (hK : va_K D vwCl (tysOf c0) s) (hN : nwA s) (hdis : ∀ q, pA Y1 q → pA Y2 q → False) (hT1 : TI D vwCl (tysOf c0) (RT1 false) Y1 H) (hy1 : Y1 o1 = some 9) (hA1 : ∀ q, pA Y1 q → s.heap.size ≤ q) (hT2 : TI D vwCl (tysOf c0) (RT1 false) Y2 H) (hy2 : Y2 o2 = some 10) (hA2 : ∀ q, pA Y2 q → s.heap.size ≤ q) (hS : va_S (fun q : Nat => s.heap.size ≤ q) s.heap H locs) (hl : lv_has ls 4 [(3, .int 0), (2, .ref o2), (1, .ref o1), (0, .ref b)]) : W p l e room_1 s m #[Value.ref b] below meth c H locs 188 7230 (lw_Z below #[Value.ref b] s) (F0 m 1283 ls []) := by
  have hbA : ¬ (fun q : Nat => s.heap.size ≤ q) b := Nat.not_le.mpr hbl
  have hin : ∀ {i : Int32} {k : Int}, iv i k k → (decide (0 ≤ k) && decide (k < 6)) = true → vp_in i L := fun h1 h2 => by rw [hL6]; exact iv_in h1 (by simpa using h2)
  refine lv_aload_n hx hb dL_law_1283 rfl (lv_at hl 2 rfl) ?_
  refine lv_aload_n hx hb dL_law_1284 rfl (lv_at hl 3 rfl) ?_
  refine lv_iload_n hx hb dL_law_1285 rfl (lv_at hl 0 rfl) ?_
  refine lv_iconst (v := 1) hx hb dL_law_1286 (by decide) ?_
  refine lv_iadd hx hb dL_law_1287 ?_
  refine lv_topi (fun w9 e9 => ?_)
  obtain rfl : w9 = 1 := e9.trans (by decide)
  refine va_sld hx hb hX hbl hbA hS (hin (iv_c (x := (1 : Int32)) (k := 1) (by decide)) (by decide)) dL_law_1288 ?_
  refine ti_calli (va_runV (As := [.int (xs (1 : Int32).toNatClampNeg)]) (rest := []) ⟨hx, hb, hml, hown, hts⟩ (t_X9_know l hT1 hy1 (iv_top _)) (cwV 1 hts (good_V kw_1263 kw_1264 kw_1265 kw_2 kw_1266) rfl rfl rfl (by decide +kernel) ⟨by decide, by decide⟩) (ti_preV hK hT1 hy1 rfl rfl) rfl rfl hl.1 rfl (lv_room (Nat.le_of_ble_eq_true rfl)) dL_law_1289 ⟨by decide, by decide⟩) hS (fun q h => hA1 q h) (fun r1 H1 locs hB hS _ hk => ?_)
  obtain ⟨_, ir1⟩ := hB
  have hT2 := TI.frame hT2 hdis hk
  generalize H1 = H at hT2 hS ⊢
  refine lv_aload_n hx hb dL_law_1292 rfl (lv_at hl 1 rfl) ?_
  refine lv_aload_n hx hb dL_law_1293 rfl (lv_at hl 3 rfl) ?_
  refine lv_iload_n hx hb dL_law_1294 rfl (lv_at hl 0 rfl) ?_
  refine lv_iconst (v := 1) hx hb dL_law_1295 (by decide) ?_
  refine lv_iadd hx hb dL_law_1296 ?_
  refine lv_topi (fun w9 e9 => ?_)
  obtain rfl : w9 = 1 := e9.trans (by decide)
  refine va_sld hx hb hX hbl hbA hS (hin (iv_c (x := (1 : Int32)) (k := 1) (by decide)) (by decide)) dL_law_1297 ?_
  refine ti_calli (va_runV (As := [.int (xs (1 : Int32).toNatClampNeg)]) (rest := [.int r1]) ⟨hx, hb, hml, hown, hts⟩ (t_X10_know l hT2 hy2 (iv_top _)) (cwV 1 hts (good_V kw_1271 kw_1272 kw_1273 kw_5 kw_1274) rfl rfl rfl (by decide +kernel) ⟨by decide, by decide⟩) (ti_preV hK hT2 hy2 rfl rfl) rfl rfl hl.1 rfl (lv_room (Nat.le_of_ble_eq_true rfl)) dL_law_1298 ⟨by decide, by decide⟩) hS (fun q h => hA2 q h) (fun r2 H1 locs hB hS _ hk => ?_)
  obtain ⟨_, ir2⟩ := hB
  generalize H1 = H at hS ⊢
  refine lv_icmp_eq (tgt := 2019) hx hb dL_law_1301 (by decide) (fun _ => ?_) (fun h => ?_)
  · exact law_nxt l hL hx hb hr hml hown hts hX hbl hlocks hL6 hS hl
  · exact absurd (Int32.toInt_inj.mp (by have := ir1.1; have := ir1.2; have := ir2.1; have := ir2.2; omega)) h
