set_option maxHeartbeats 4000000 in
set_option maxRecDepth 100000 in
theorem t_X10_does (l : Launch) {D : va_G} {c0 : Nat → ClassId} {Y : Nat → Option Nat} {ν : Nat → Nat} {H : Heap} (hT : TI D vwCl (tysOf c0) (RTg ν) Y H) {a0 : Nat} (ha0 : Y a0 = some 10) {x1 : Int32} (hx1 : iv x1 0 7) {x2 : Int32} (hx2 : iv x2 (-2147483648) 2147483647) {x3 : Int32} (hx3 : iv x3 (-2147483648) 2147483647) {x4 : Int32} (hx4 : iv x4 (-2147483648) 2147483647) {x5 : Int32} (hx5 : iv x5 (-1) 7) (hi0 : 1 ≤ x4.toInt → 0 ≤ x5.toInt) (hU : uq Y) : Met l yX10_does (wz yX10_does cX10_does 6 none) { frames := 3, cells := 0, slots := 0, locals := 107 } (TP D vwCl (tysOf c0) H [.ref a0, .int x1, .int x2, .int x3, .int x4, .int x5]) (TQv (fun H' => TI D vwCl (tysOf c0) (RTg ν) Y H') Y [29, 30]) 0 0 (pW Y [29, 30]) := by
  refine Met.ofW (cc := cX10_does) (maxL := 6) (ret := none) (by decide) rfl ?_
  intro p e s m args below meth c s₁ B hml hv
  obtain ⟨rfl, rfl, hK⟩ := hv
  have hx := B.exec
  have hb := B.bytes
  have hr := B.returns
  have hts : ∀ w ∈ wq, w.before _ s = true := fun w h => atoms_spec (ws := wz yX10_does cX10_does 6 none) B.pre w (List.mem_cons_of_mem _ h)
  have hown : s.vm.findClass RX10 = some m.cls := findClass_of_methodNamed B.named
  have hlocks := B.notSynchronized
  obtain ⟨R, hR⟩ : ∃ R : Room, R = ({ frames := 3, cells := 0, slots := 0, locals := 107 } : Room) := ⟨_, rfl⟩
  rw [show (headSpec (wz yX10_does cX10_does 6 none) { frames := 3, cells := 0, slots := 0, locals := 107 }).room = R from hR.symm]
  refine ti_mv hx hb hr hlocks (fun Q ret => ?_)
  have hl := lv_entry [.ref a0, .int x1, .int x2, .int x3, .int x4, .int x5] (n := 6) (Nat.le_of_ble_eq_true rfl)
  rw [lg_entry_eq]
  generalize (lg_sl [.ref a0, .int x1, .int x2, .int x3, .int x4, .int x5] ++ List.replicate (6 - (lg_sl [.ref a0, .int x1, .int x2, .int x3, .int x4, .int x5]).length) Slot.unset).toArray = ls at hl ⊢
  have hl : lv_has ls 6 [(0, .ref a0), (1, .int x1), (2, .int x2), (3, .int x3), (4, .int x4), (5, .int x5)] := hl
  refine ti_gen (P := fun H => TI D vwCl (tysOf c0) (RTg ν) Y H) (Y := Y) (ws := [29, 30]) hT (fun H locs hT hS => ?_)
  refine lv_aload_n hx hb dX10_does_0 rfl (lv_at hl 0 rfl) ?_
  refine lv_iload_n hx hb dX10_does_1 rfl (lv_at hl 1 rfl) ?_
  refine lv_iload_n hx hb dX10_does_2 rfl (lv_at hl 2 rfl) ?_
  refine lv_iload_n hx hb dX10_does_3 rfl (lv_at hl 3 rfl) ?_
  refine lv_iload hx hb dX10_does_4 (lv_at hl 4 rfl) ?_
  refine lv_iload hx hb dX10_does_6 (lv_at hl 5 rfl) ?_
  refine ti_callv (va_runV (As := [.int x1, .int x2, .int x3, .int x4, .int x5]) (rest := []) ⟨hx, hb, hml, hown, hts⟩ (t_X10_acts l hT ha0 (iv_w hx1 (by decide)) (iv_w hx2 (by decide)) (iv_w hx3 (by decide)) (iv_w hx4 (by decide)) (iv_w hx5 (by decide)) (fun h9 => by have b0a := (hx4).1; have b0b := (hx4).2; have b1a := (hx5).1; have b1b := (hx5).2; omega) hU) (cwV 5 hts (good_V kw_787 kw_788 kw_789 kw_5 kw_790) rfl rfl rfl (by decide +kernel) ⟨by rw [hR]; decide, by rw [hR]; decide⟩) (ti_preV hK hT ha0 rfl rfl) rfl rfl hl.1 rfl (lv_room (Nat.le_of_ble_eq_true rfl)) dX10_does_8 ⟨Nat.zero_le _, Nat.zero_le _⟩) hS (pW_sub rfl) (fun H locs hB hS _ hk8 => ?_)
  have hT := hB
  refine lv_aload_n hx hb dX10_does_11 rfl (lv_at hl 0 rfl) ?_
  refine ti_getr hx hb hts inlX10 hown hK hT ha0 rfl rfl rfl 25 (by decide) (hts _ kw_143) (fun _ h9 => h9) rfl dX10_does_12 (fun v12 hv12 hm12 => ?_)
  refine lv_iload_n hx hb dX10_does_15 rfl (lv_at hl 1 rfl) ?_
  refine lv_iload_n hx hb dX10_does_16 rfl (lv_at hl 3 rfl) ?_
  refine ti_iast hx hb (aT0 hK) hT hS hv12 rfl rfl hx1 (by decide) (fun _ _ _ => ⟨_, _, rfl, by decide, by decide⟩) hx3 (fun _ _ => trivial) dX10_does_17 (fun H locs hT hS oq17 he17 hk17 => ?_)
  refine lv_aload_n hx hb dX10_does_18 rfl (lv_at hl 0 rfl) ?_
  refine ti_getr hx hb hts inlX10 hown hK hT ha0 rfl rfl rfl 26 (by decide) (hts _ kw_144) (fun _ h9 => h9) rfl dX10_does_19 (fun v19 hv19 hm19 => ?_)
  refine lv_iload_n hx hb dX10_does_22 rfl (lv_at hl 1 rfl) ?_
  refine lv_iload_n hx hb dX10_does_23 rfl (lv_at hl 2 rfl) ?_
  refine ti_iast hx hb (aT0 hK) hT hS hv19 rfl rfl hx1 (by decide) (fun _ _ _ => ⟨_, _, rfl, by decide, by decide⟩) hx2 (fun _ _ => trivial) dX10_does_24 (fun H locs hT hS oq24 he24 hk24 => ?_)
  exact ret _ _ _ _ dX10_does_25 (hT) hS
set_option maxHeartbeats 4000000 in
set_option maxRecDepth 100000 in
theorem t_X10_goesHisWay (l : Launch) {D : va_G} {c0 : Nat → ClassId} {Y : Nat → Option Nat} {ν : Nat → Nat} {H : Heap} (hT : TI D vwCl (tysOf c0) (RTg ν) Y H) {a0 : Nat} (ha0 : Y a0 = some 10) {x1 : Int32} (hx1 : iv x1 0 7) (hU : uq Y) : Met l yX10_goesHisWay (wz yX10_goesHisWay cX10_goesHisWay 5 none) { frames := 7, cells := 0, slots := 0, locals := 218 } (TP D vwCl (tysOf c0) H [.ref a0, .int x1]) (TQv (fun H' => TI D vwCl (tysOf c0) (RTg ν) Y H') Y [10, 29, 30, 43]) 0 0 (pW Y [10, 29, 30, 43]) := by
  refine Met.ofW (cc := cX10_goesHisWay) (maxL := 5) (ret := none) (by decide) rfl ?_
  intro p e s m args below meth c s₁ B hml hv
  obtain ⟨rfl, rfl, hK⟩ := hv
  have hx := B.exec
  have hb := B.bytes
  have hr := B.returns
  have hts : ∀ w ∈ wq, w.before _ s = true := fun w h => atoms_spec (ws := wz yX10_goesHisWay cX10_goesHisWay 5 none) B.pre w (List.mem_cons_of_mem _ h)
  have hown : s.vm.findClass RX10 = some m.cls := findClass_of_methodNamed B.named
  have hlocks := B.notSynchronized
  obtain ⟨R, hR⟩ : ∃ R : Room, R = ({ frames := 7, cells := 0, slots := 0, locals := 218 } : Room) := ⟨_, rfl⟩
  rw [show (headSpec (wz yX10_goesHisWay cX10_goesHisWay 5 none) { frames := 7, cells := 0, slots := 0, locals := 218 }).room = R from hR.symm]
  refine ti_mv hx hb hr hlocks (fun Q ret => ?_)
  have hl := lv_entry [.ref a0, .int x1] (n := 5) (Nat.le_of_ble_eq_true rfl)
  rw [lg_entry_eq]
  generalize (lg_sl [.ref a0, .int x1] ++ List.replicate (5 - (lg_sl [.ref a0, .int x1]).length) Slot.unset).toArray = ls at hl ⊢
  have hl : lv_has ls 5 [(0, .ref a0), (1, .int x1)] := hl
  refine ti_gen (P := fun H => TI D vwCl (tysOf c0) (RTg ν) Y H) (Y := Y) (ws := [10, 29, 30, 43]) hT (fun H locs hT hS => ?_)
  refine lv_aload_n hx hb dX10_goesHisWay_0 rfl (lv_at hl 0 rfl) ?_
  refine lv_iload_n hx hb dX10_goesHisWay_1 rfl (lv_at hl 1 rfl) ?_
  refine lv_iconst (v := 2) hx hb dX10_goesHisWay_2 (by decide) ?_
  refine ti_calli (va_runV (As := [.int x1, .int (2 : Int32)]) (rest := []) ⟨hx, hb, hml, hown, hts⟩ (t_X10_of l hT ha0 (iv_w hx1 (by decide)) (iv_w (iv_c (x := (2 : Int32)) (k := 2) (by decide)) (by decide)) hU) (cwV 2 hts (good_V kw_490 kw_491 kw_492 kw_5 kw_493) rfl rfl rfl (by decide +kernel) ⟨by rw [hR]; decide, by rw [hR]; decide⟩) (ti_preV hK hT ha0 rfl rfl) rfl rfl hl.1 rfl (lv_room (Nat.le_of_ble_eq_true rfl)) dX10_goesHisWay_3 ⟨Nat.zero_le _, Nat.zero_le _⟩) hS (pW_sub rfl) (fun v3 H1 locs hB hS _ hk3 => ?_)
  obtain ⟨hH, hp3⟩ := hB
  rw [hH] at hS ⊢
  have kl2 : (2 : Int32).toInt = 2 := by decide
  refine lv_istore_n (lv' := [(2, .int v3), (0, .ref a0), (1, .int x1)]) hx hb dX10_goesHisWay_6 rfl hl (by decide) rfl (fun ls hl => ?_)
  refine lv_iload_n hx hb dX10_goesHisWay_7 rfl (lv_at hl 0 rfl) ?_
  refine lv_iconst (v := 5) hx hb dX10_goesHisWay_8 (by decide) ?_
  refine lv_icmp_ne (tgt := 53) hx hb dX10_goesHisWay_9 (by decide) (fun c9 => ?_) (fun c9 => ?_)
  · skip
    have kl5 : (5 : Int32).toInt = 5 := by decide
    have f9 := i_ne c9
    refine lv_aload_n hx hb dX10_goesHisWay_53 rfl (lv_at hl 1 rfl) ?_
    refine lv_iload_n hx hb dX10_goesHisWay_54 rfl (lv_at hl 2 rfl) ?_
    refine lv_iconst (v := 1) hx hb dX10_goesHisWay_55 (by decide) ?_
    refine lv_iconst (v := 0) hx hb dX10_goesHisWay_56 (by decide) ?_
    refine lv_iconst (v := 0) hx hb dX10_goesHisWay_57 (by decide) ?_
    refine lv_iconst (v := (-1)) hx hb dX10_goesHisWay_58 (by decide) ?_
    have kl0 : (0 : Int32).toInt = 0 := by decide
    have klm1 : (-1 : Int32).toInt = (-1) := by decide
    refine ti_callv (va_runV (As := [.int x1, .int (1 : Int32), .int (0 : Int32), .int (0 : Int32), .int (-1 : Int32)]) (rest := []) ⟨hx, hb, hml, hown, hts⟩ (t_X10_does l hT ha0 (iv_w hx1 (by decide)) (iv_w (iv_c (x := (1 : Int32)) (k := 1) (by decide)) (by decide)) (iv_w (iv_c (x := (0 : Int32)) (k := 0) (by decide)) (by decide)) (iv_w (iv_c (x := (0 : Int32)) (k := 0) (by decide)) (by decide)) (iv_w (iv_c (x := (-1 : Int32)) (k := (-1)) (by decide)) (by decide)) (fun h9 => by omega) hU) (cwV 5 hts (good_V kw_987 kw_988 kw_989 kw_5 kw_990) rfl rfl rfl (by decide +kernel) ⟨by rw [hR]; decide, by rw [hR]; decide⟩) (ti_preV hK hT ha0 rfl rfl) rfl rfl hl.1 rfl (lv_room (Nat.le_of_ble_eq_true rfl)) dX10_goesHisWay_59 ⟨Nat.zero_le _, Nat.zero_le _⟩) hS (pW_sub rfl) (fun H locs hB hS _ hk59 => ?_)
    have hT := hB
    refine lv_iload_n hx hb dX10_goesHisWay_62 rfl (lv_at hl 0 rfl) ?_
    have J111 : ∀  (H : Heap) (locs : List Loc) (ls : Array Slot), TI D vwCl (tysOf c0) (RTg ν) Y H → va_S (pW Y [10, 29, 30, 43]) s.heap H locs → lv_has ls 5 [(0, .ref a0), (1, .int x1), (2, .int v3)] → W p l e R s m ([.ref a0, .int x1] : List Value).toArray below meth c H locs 0 0 Q (F0 m 111 ls []) := by
      intro  H locs ls  hT hS hl
      refine lv_iload_n hx hb dX10_goesHisWay_111 rfl (lv_at hl 2 rfl) ?_
      refine lv_iconst (v := 1) hx hb dX10_goesHisWay_112 (by decide) ?_
      have J162 : ∀ (j162_S0 : Int32) (H : Heap) (locs : List Loc) (ls : Array Slot), iv j162_S0 (-1) 7 → TI D vwCl (tysOf c0) (RTg ν) Y H → va_S (pW Y [10, 29, 30, 43]) s.heap H locs → lv_has ls 5 [(0, .ref a0), (1, .int x1), (2, .int v3)] → W p l e R s m ([.ref a0, .int x1] : List Value).toArray below meth c H locs 0 0 Q (F0 m 162 ls [.int j162_S0]) := by
        intro j162_S0 H locs ls hj162_S0 hT hS hl
        refine lv_istore_n (lv' := [(3, .int j162_S0), (0, .ref a0), (1, .int x1), (2, .int v3)]) hx hb dX10_goesHisWay_162 rfl hl (by decide) rfl (fun ls hl => ?_)
        refine lv_iload_n hx hb dX10_goesHisWay_163 rfl (lv_at hl 0 rfl) ?_
        refine lv_iconst (v := (-1)) hx hb dX10_goesHisWay_164 (by decide) ?_
        have J228 : ∀  (H : Heap) (locs : List Loc) (ls : Array Slot), TI D vwCl (tysOf c0) (RTg ν) Y H → va_S (pW Y [10, 29, 30, 43]) s.heap H locs → lv_has ls 5 [(0, .ref a0), (1, .int x1), (2, .int v3), (3, .int j162_S0)] → W p l e R s m ([.ref a0, .int x1] : List Value).toArray below meth c H locs 0 0 Q (F0 m 228 ls []) := by
          intro  H locs ls  hT hS hl
          refine lv_iload_n hx hb dX10_goesHisWay_228 rfl (lv_at hl 2 rfl) ?_
          refine lv_iconst (v := 3) hx hb dX10_goesHisWay_229 (by decide) ?_
          refine lv_icmp_ne (tgt := 254) hx hb dX10_goesHisWay_230 (by decide) (fun c230 => ?_) (fun c230 => ?_)
          · skip
            have kl3 : (3 : Int32).toInt = 3 := by decide
            have f230 := i_ne c230
            exact ret _ _ _ _ dX10_goesHisWay_254 (hT) hS
          · skip
            have kl3 : (3 : Int32).toInt = 3 := by decide
            have f230 := i_eq c230
            have hv3_230l : iv v3 3 3 := iv_eql (iv_top v3) (iv_c (x := (3 : Int32)) (k := 3) (by decide)) c230 (by decide)
            refine lv_aload_n hx hb dX10_goesHisWay_233 rfl (lv_at hl 0 rfl) ?_
            refine lv_iload_n hx hb dX10_goesHisWay_234 rfl (lv_at hl 1 rfl) ?_
            refine lv_iconst (v := 1) hx hb dX10_goesHisWay_235 (by decide) ?_
            refine lv_aload_n hx hb dX10_goesHisWay_236 rfl (lv_at hl 0 rfl) ?_
            refine lv_iload_n hx hb dX10_goesHisWay_237 rfl (lv_at hl 1 rfl) ?_
            refine lv_iconst (v := 3) hx hb dX10_goesHisWay_238 (by decide) ?_
            refine ti_calli (va_runV (As := [.int x1, .int (3 : Int32)]) (rest := [.int (1 : Int32), .int x1, .ref a0]) ⟨hx, hb, hml, hown, hts⟩ (t_X10_of l hT ha0 (iv_w hx1 (by decide)) (iv_w (iv_c (x := (3 : Int32)) (k := 3) (by decide)) (by decide)) hU) (cwV 2 hts (good_V kw_490 kw_491 kw_492 kw_5 kw_493) rfl rfl rfl (by decide +kernel) ⟨by rw [hR]; decide, by rw [hR]; decide⟩) (ti_preV hK hT ha0 rfl rfl) rfl rfl hl.1 rfl (lv_room (Nat.le_of_ble_eq_true rfl)) dX10_goesHisWay_239 ⟨Nat.zero_le _, Nat.zero_le _⟩) hS (pW_sub rfl) (fun v239 H1 locs hB hS _ hk239 => ?_)
            obtain ⟨hH, hp239⟩ := hB
            rw [hH] at hS ⊢
            refine lv_aload_n hx hb dX10_goesHisWay_242 rfl (lv_at hl 0 rfl) ?_
            refine lv_iload_n hx hb dX10_goesHisWay_243 rfl (lv_at hl 1 rfl) ?_
            refine lv_iconst (v := 0) hx hb dX10_goesHisWay_244 (by decide) ?_
            refine ti_calli (va_runV (As := [.int x1, .int (0 : Int32)]) (rest := [.int v239, .int (1 : Int32), .int x1, .ref a0]) ⟨hx, hb, hml, hown, hts⟩ (t_X10_of l hT ha0 (iv_w hx1 (by decide)) (iv_w (iv_c (x := (0 : Int32)) (k := 0) (by decide)) (by decide)) hU) (cwV 2 hts (good_V kw_490 kw_491 kw_492 kw_5 kw_493) rfl rfl rfl (by decide +kernel) ⟨by rw [hR]; decide, by rw [hR]; decide⟩) (ti_preV hK hT ha0 rfl rfl) rfl rfl hl.1 rfl (lv_room (Nat.le_of_ble_eq_true rfl)) dX10_goesHisWay_245 ⟨Nat.zero_le _, Nat.zero_le _⟩) hS (pW_sub rfl) (fun v245 H1 locs hB hS _ hk245 => ?_)
            obtain ⟨hH, hp245⟩ := hB
            rw [hH] at hS ⊢
            have hf245 : iv v245 (-2147483648) 100000 := by have b0a := ((iv_top v245)).1; have b0b := ((iv_top v245)).2; exact ⟨by omega, by omega⟩
            refine va_mmin hx hb (by rw [hml]; exact hl.1.symm) hown (hts _ kw_394) (hts _ kw_211) (hts _ kw_212) (hts _ kw_213) (by rw [hR]; decide) (by rw [hR]; exact Nat.le_of_ble_eq_true rfl) (Nat.zero_le _) (Nat.zero_le _) dX10_goesHisWay_248 ?_
            refine lv_topi (fun v248 e248 => ?_)
            have hv248 : iv v248 (-2147483648) 100000 := by rw [e248]; exact iv_min (iv_top v239) hf245 (by decide)
            refine ti_callv (va_runV (As := [.int x1, .int (1 : Int32), .int v248]) (rest := []) ⟨hx, hb, hml, hown, hts⟩ (t_X10_set l hT ha0 (iv_w hx1 (by decide)) (iv_w (iv_c (x := (1 : Int32)) (k := 1) (by decide)) (by decide)) (iv_w hv248 (by decide)) (fun h9 => by have b0a := (hx1).1; have b0b := (hx1).2; have b1a := (hv248).1; have b1b := (hv248).2; omega) hU) (cwV 3 hts (good_V kw_511 kw_512 kw_513 kw_5 kw_514) rfl rfl rfl (by decide +kernel) ⟨by rw [hR]; decide, by rw [hR]; decide⟩) (ti_preV hK hT ha0 rfl rfl) rfl rfl hl.1 rfl (lv_room (Nat.le_of_ble_eq_true rfl)) dX10_goesHisWay_251 ⟨Nat.zero_le _, Nat.zero_le _⟩) hS (pW_sub rfl) (fun H locs hB hS _ hk251 => ?_)
            obtain ⟨hT, hp251⟩ := hB
            exact ret _ _ _ _ dX10_goesHisWay_254 (hT) hS
        refine lv_icmp_eq (tgt := 228) hx hb dX10_goesHisWay_165 (by decide) (fun c165 => ?_) (fun c165 => ?_)
        · skip
          have f165 := i_eq c165
          have hj162_S0_165l : iv j162_S0 (-1) (-1) := iv_eql hj162_S0 (iv_c (x := (-1 : Int32)) (k := (-1)) (by decide)) c165 (by decide)
          exact J228  _ _ _   hT hS (lv_sub hl [1, 2, 3, 0] rfl)
        · skip
          have f165 := i_ne c165
          have hj162_S0_165l : iv j162_S0 0 7 := iv_nel hj162_S0 (iv_c (x := (-1 : Int32)) (k := (-1)) (by decide)) c165 (by decide)
          refine lv_iconst (v := 0) hx hb dX10_goesHisWay_168 (by decide) ?_
          refine lv_aload_n hx hb dX10_goesHisWay_169 rfl (lv_at hl 1 rfl) ?_
          refine lv_iload_n hx hb dX10_goesHisWay_170 rfl (lv_at hl 2 rfl) ?_
          refine ti_calli (va_runV (As := [.int x1]) (rest := [.int (0 : Int32)]) ⟨hx, hb, hml, hown, hts⟩ (t_X10_shown l hT ha0 (iv_w hx1 (by decide)) hU) (cwV 1 hts (good_V kw_553 kw_554 kw_555 kw_5 kw_556) rfl rfl rfl (by decide +kernel) ⟨by rw [hR]; decide, by rw [hR]; decide⟩) (ti_preV hK hT ha0 rfl rfl) rfl rfl hl.1 rfl (lv_room (Nat.le_of_ble_eq_true rfl)) dX10_goesHisWay_171 ⟨Nat.zero_le _, Nat.zero_le _⟩) hS (pW_sub rfl) (fun v171 H1 locs hB hS _ hk171 => ?_)
          have hH := hB
          rw [hH] at hS ⊢
          refine lv_iload_n hx hb dX10_goesHisWay_174 rfl (lv_at hl 3 rfl) ?_
          refine lv_iconst (v := 1) hx hb dX10_goesHisWay_175 (by decide) ?_
          have J192 : ∀ (j192_S2 : Int32) (H : Heap) (locs : List Loc) (ls : Array Slot), iv j192_S2 (-2147483648) 2147483647 → TI D vwCl (tysOf c0) (RTg ν) Y H → va_S (pW Y [10, 29, 30, 43]) s.heap H locs → lv_has ls 5 [(0, .ref a0), (1, .int x1), (2, .int v3), (3, .int j162_S0)] → W p l e R s m ([.ref a0, .int x1] : List Value).toArray below meth c H locs 0 0 Q (F0 m 192 ls [.int j192_S2, .int v171, .int (0 : Int32)]) := by
            intro j192_S2 H locs ls hj192_S2 hT hS hl
            refine lv_isub hx hb dX10_goesHisWay_192 ?_
            refine lv_topi (fun v192 e192 => ?_)
            have hv192 : iv v192 (-2147483648) 2147483647 := iv_top _
            refine va_mmax hx hb (by rw [hml]; exact hl.1.symm) hown (hts _ kw_617) (hts _ kw_618) (hts _ kw_212) (hts _ kw_619) (by rw [hR]; decide) (by rw [hR]; exact Nat.le_of_ble_eq_true rfl) (Nat.zero_le _) (Nat.zero_le _) dX10_goesHisWay_193 ?_
            refine lv_topi (fun v193 e193 => ?_)
            have hv193 : iv v193 0 2147483647 := by rw [e193]; exact iv_max (iv_c (x := (0 : Int32)) (k := 0) (by decide)) hv192 (by decide)
            refine lv_iconst (v := 2) hx hb dX10_goesHisWay_196 (by decide) ?_
            refine lv_idiv hx hb dX10_goesHisWay_197 (iv_ne0 (iv_c (x := (2 : Int32)) (k := 2) (by decide)) (by decide)) ?_
            refine lv_topi (fun v197 e197 => ?_)
            have hv197 : iv v197 0 1073741823 := by rw [e197]; exact iv_w (iv_divk hv193 (iv_c (x := (2 : Int32)) (k := 2) (by decide)) (by decide)) (by decide)
            refine lv_istore (lv' := [(4, .int v197), (0, .ref a0), (1, .int x1), (2, .int v3), (3, .int j162_S0)]) hx hb dX10_goesHisWay_198 hl (by decide) rfl (fun ls hl => ?_)
            refine lv_aload_n hx hb dX10_goesHisWay_200 rfl (lv_at hl 1 rfl) ?_
            refine lv_iload_n hx hb dX10_goesHisWay_201 rfl (lv_at hl 2 rfl) ?_
            refine lv_aload_n hx hb dX10_goesHisWay_202 rfl (lv_at hl 1 rfl) ?_
            refine lv_iload_n hx hb dX10_goesHisWay_203 rfl (lv_at hl 2 rfl) ?_
            refine lv_iconst (v := 0) hx hb dX10_goesHisWay_204 (by decide) ?_
            refine ti_calli (va_runV (As := [.int x1, .int (0 : Int32)]) (rest := [.int x1, .ref a0]) ⟨hx, hb, hml, hown, hts⟩ (t_X10_of l hT ha0 (iv_w hx1 (by decide)) (iv_w (iv_c (x := (0 : Int32)) (k := 0) (by decide)) (by decide)) hU) (cwV 2 hts (good_V kw_490 kw_491 kw_492 kw_5 kw_493) rfl rfl rfl (by decide +kernel) ⟨by rw [hR]; decide, by rw [hR]; decide⟩) (ti_preV hK hT ha0 rfl rfl) rfl rfl hl.1 rfl (lv_room (Nat.le_of_ble_eq_true rfl)) dX10_goesHisWay_205 ⟨Nat.zero_le _, Nat.zero_le _⟩) hS (pW_sub rfl) (fun v205 H1 locs hB hS _ hk205 => ?_)
            obtain ⟨hH, hp205⟩ := hB
            rw [hH] at hS ⊢
            have hf205 : iv v205 (-2147483648) 100000 := by have b0a := ((iv_top v205)).1; have b0b := ((iv_top v205)).2; exact ⟨by omega, by omega⟩
            refine lv_iload hx hb dX10_goesHisWay_208 (lv_at hl 0 rfl) ?_
            refine lv_isub hx hb dX10_goesHisWay_210 ?_
            refine lv_topi (fun v210 e210 => ?_)
            have hv210 : iv v210 (-2147483648) 2147483647 := iv_top _
            refine ti_callv (va_runV (As := [.int x1, .int v210]) (rest := []) ⟨hx, hb, hml, hown, hts⟩ (t_X10_has l hT ha0 (iv_w hx1 (by decide)) (iv_w hv210 (by decide)) hU) (cwV 2 hts (good_V kw_507 kw_508 kw_509 kw_5 kw_510) rfl rfl rfl (by decide +kernel) ⟨by rw [hR]; decide, by rw [hR]; decide⟩) (ti_preV hK hT ha0 rfl rfl) rfl rfl hl.1 rfl (lv_room (Nat.le_of_ble_eq_true rfl)) dX10_goesHisWay_211 ⟨Nat.zero_le _, Nat.zero_le _⟩) hS (pW_sub rfl) (fun H locs hB hS _ hk211 => ?_)
            obtain ⟨hT, hp211⟩ := hB
            refine lv_aload_n hx hb dX10_goesHisWay_214 rfl (lv_at hl 1 rfl) ?_
            refine lv_iload_n hx hb dX10_goesHisWay_215 rfl (lv_at hl 4 rfl) ?_
            refine lv_aload_n hx hb dX10_goesHisWay_216 rfl (lv_at hl 1 rfl) ?_
            refine lv_iload_n hx hb dX10_goesHisWay_217 rfl (lv_at hl 4 rfl) ?_
            refine lv_iconst (v := 0) hx hb dX10_goesHisWay_218 (by decide) ?_
            refine ti_calli (va_runV (As := [.int j162_S0, .int (0 : Int32)]) (rest := [.int j162_S0, .ref a0]) ⟨hx, hb, hml, hown, hts⟩ (t_X10_of l hT ha0 (iv_w hj162_S0_165l (by decide)) (iv_w (iv_c (x := (0 : Int32)) (k := 0) (by decide)) (by decide)) hU) (cwV 2 hts (good_V kw_490 kw_491 kw_492 kw_5 kw_493) rfl rfl rfl (by decide +kernel) ⟨by rw [hR]; decide, by rw [hR]; decide⟩) (ti_preV hK hT ha0 rfl rfl) rfl rfl hl.1 rfl (lv_room (Nat.le_of_ble_eq_true rfl)) dX10_goesHisWay_219 ⟨Nat.zero_le _, Nat.zero_le _⟩) hS (pW_sub rfl) (fun v219 H1 locs hB hS _ hk219 => ?_)
            obtain ⟨hH, hp219⟩ := hB
            rw [hH] at hS ⊢
            have hf219 : iv v219 (-2147483648) 100000 := by have b0a := ((iv_top v219)).1; have b0b := ((iv_top v219)).2; exact ⟨by omega, by omega⟩
            refine lv_iload hx hb dX10_goesHisWay_222 (lv_at hl 0 rfl) ?_
            refine lv_iadd hx hb dX10_goesHisWay_224 ?_
            refine lv_topi (fun v224 e224 => ?_)
            have hv224 : iv v224 (-2147483648) 1073841823 := by rw [e224]; exact iv_w (iv_add hf219 hv197 (by decide)) (by decide)
            have s224 : v224.toInt = v219.toInt + v197.toInt := by rw [e224]; exact iv_addE hf219 hv197 (by decide)
            refine ti_callv (va_runV (As := [.int j162_S0, .int v224]) (rest := []) ⟨hx, hb, hml, hown, hts⟩ (t_X10_has l hT ha0 (iv_w hj162_S0_165l (by decide)) (iv_w hv224 (by decide)) hU) (cwV 2 hts (good_V kw_507 kw_508 kw_509 kw_5 kw_510) rfl rfl rfl (by decide +kernel) ⟨by rw [hR]; decide, by rw [hR]; decide⟩) (ti_preV hK hT ha0 rfl rfl) rfl rfl hl.1 rfl (lv_room (Nat.le_of_ble_eq_true rfl)) dX10_goesHisWay_225 ⟨Nat.zero_le _, Nat.zero_le _⟩) hS (pW_sub rfl) (fun H locs hB hS _ hk225 => ?_)
            obtain ⟨hT, hp225⟩ := hB
            exact J228  _ _ _   hT hS (lv_sub hl [1, 2, 3, 4] rfl)
          refine lv_icmp_ne (tgt := 187) hx hb dX10_goesHisWay_176 (by decide) (fun c176 => ?_) (fun c176 => ?_)
          · skip
            have kl1 : (1 : Int32).toInt = 1 := by decide
            have f176 := i_ne c176
            refine lv_aload_n hx hb dX10_goesHisWay_187 rfl (lv_at hl 1 rfl) ?_
            refine lv_iload_n hx hb dX10_goesHisWay_188 rfl (lv_at hl 0 rfl) ?_
            refine ti_calli (va_runV (As := [.int j162_S0]) (rest := [.int v171, .int (0 : Int32)]) ⟨hx, hb, hml, hown, hts⟩ (t_X10_shown l hT ha0 (iv_w hj162_S0_165l (by decide)) hU) (cwV 1 hts (good_V kw_553 kw_554 kw_555 kw_5 kw_556) rfl rfl rfl (by decide +kernel) ⟨by rw [hR]; decide, by rw [hR]; decide⟩) (ti_preV hK hT ha0 rfl rfl) rfl rfl hl.1 rfl (lv_room (Nat.le_of_ble_eq_true rfl)) dX10_goesHisWay_189 ⟨Nat.zero_le _, Nat.zero_le _⟩) hS (pW_sub rfl) (fun v189 H1 locs hB hS _ hk189 => ?_)
            have hH := hB
            rw [hH] at hS ⊢
            exact J192 v189 _ _ _  (iv_w (iv_top v189) (by decide)) hT hS (lv_sub hl [1, 2, 3, 0] rfl)
          · skip
            have kl1 : (1 : Int32).toInt = 1 := by decide
            have f176 := i_eq c176
            have hv3_176l : iv v3 1 1 := iv_eql (iv_top v3) (iv_c (x := (1 : Int32)) (k := 1) (by decide)) c176 (by decide)
            refine lv_aload_n hx hb dX10_goesHisWay_179 rfl (lv_at hl 1 rfl) ?_
            refine lv_iload_n hx hb dX10_goesHisWay_180 rfl (lv_at hl 2 rfl) ?_
            refine ti_calli (va_runV (As := [.int x1]) (rest := [.int v171, .int (0 : Int32)]) ⟨hx, hb, hml, hown, hts⟩ (t_X10_topSeen l hT ha0 (iv_w hx1 (by decide)) hU) (cwV 1 hts (good_V kw_991 kw_992 kw_993 kw_5 kw_994) rfl rfl rfl (by decide +kernel) ⟨by rw [hR]; decide, by rw [hR]; decide⟩) (ti_preV hK hT ha0 rfl rfl) rfl rfl hl.1 rfl (lv_room (Nat.le_of_ble_eq_true rfl)) dX10_goesHisWay_181 ⟨Nat.zero_le _, Nat.zero_le _⟩) hS (pW_sub rfl) (fun v181 H1 locs hB hS _ hk181 => ?_)
            obtain ⟨hH, hv181⟩ := hB
            rw [hH] at hS ⊢
            refine lv_goto (tgt := 192) hx hb dX10_goesHisWay_184 (by decide) ?_
            exact J192 v181 _ _ _  (iv_w hv181 (by decide)) hT hS (lv_sub hl [1, 2, 3, 0] rfl)
      refine lv_icmp_ne (tgt := 124) hx hb dX10_goesHisWay_113 (by decide) (fun c113 => ?_) (fun c113 => ?_)
      · skip
        have kl1 : (1 : Int32).toInt = 1 := by decide
        have f113 := i_ne c113
        refine lv_iload_n hx hb dX10_goesHisWay_124 rfl (lv_at hl 2 rfl) ?_
        refine lv_iconst (v := 2) hx hb dX10_goesHisWay_125 (by decide) ?_
        have J161 : ∀  (H : Heap) (locs : List Loc) (ls : Array Slot), TI D vwCl (tysOf c0) (RTg ν) Y H → va_S (pW Y [10, 29, 30, 43]) s.heap H locs → lv_has ls 5 [(0, .ref a0), (1, .int x1), (2, .int v3)] → W p l e R s m ([.ref a0, .int x1] : List Value).toArray below meth c H locs 0 0 Q (F0 m 161 ls []) := by
          intro  H locs ls  hT hS hl
          refine lv_iconst (v := (-1)) hx hb dX10_goesHisWay_161 (by decide) ?_
          exact J162 (-1 : Int32) _ _ _  (iv_w (iv_c (x := (-1 : Int32)) (k := (-1)) (by decide)) (by decide)) hT hS (lv_sub hl [0, 1, 2] rfl)
        refine lv_icmp_ne (tgt := 161) hx hb dX10_goesHisWay_126 (by decide) (fun c126 => ?_) (fun c126 => ?_)
        · skip
          have f126 := i_ne c126
          exact J161  _ _ _   hT hS (lv_sub hl [0, 1, 2] rfl)
        · skip
          have f126 := i_eq c126
          have hv3_126l : iv v3 2 2 := iv_eql (iv_top v3) (iv_c (x := (2 : Int32)) (k := 2) (by decide)) c126 (by decide)
          refine lv_aload_n hx hb dX10_goesHisWay_129 rfl (lv_at hl 0 rfl) ?_
          refine lv_aload_n hx hb dX10_goesHisWay_130 rfl (lv_at hl 0 rfl) ?_
          refine lv_iload_n hx hb dX10_goesHisWay_131 rfl (lv_at hl 1 rfl) ?_
          refine lv_iconst (v := 3) hx hb dX10_goesHisWay_132 (by decide) ?_
          refine ti_calli (va_runV (As := [.int x1, .int (3 : Int32)]) (rest := [.ref a0]) ⟨hx, hb, hml, hown, hts⟩ (t_X10_of l hT ha0 (iv_w hx1 (by decide)) (iv_w (iv_c (x := (3 : Int32)) (k := 3) (by decide)) (by decide)) hU) (cwV 2 hts (good_V kw_490 kw_491 kw_492 kw_5 kw_493) rfl rfl rfl (by decide +kernel) ⟨by rw [hR]; decide, by rw [hR]; decide⟩) (ti_preV hK hT ha0 rfl rfl) rfl rfl hl.1 rfl (lv_room (Nat.le_of_ble_eq_true rfl)) dX10_goesHisWay_133 ⟨Nat.zero_le _, Nat.zero_le _⟩) hS (pW_sub rfl) (fun v133 H1 locs hB hS _ hk133 => ?_)
          obtain ⟨hH, hp133⟩ := hB
          rw [hH] at hS ⊢
          have kl3 : (3 : Int32).toInt = 3 := by decide
          refine ti_calli (va_runV (As := [.int v133]) (rest := []) ⟨hx, hb, hml, hown, hts⟩ (t_X10_isPerson l hT ha0 (iv_w (iv_top v133) (by decide)) hU) (cwV 1 hts (good_V kw_486 kw_487 kw_488 kw_5 kw_489) rfl rfl rfl (by decide +kernel) ⟨by rw [hR]; decide, by rw [hR]; decide⟩) (ti_preV hK hT ha0 rfl rfl) rfl rfl hl.1 rfl (lv_room (Nat.le_of_ble_eq_true rfl)) dX10_goesHisWay_136 ⟨Nat.zero_le _, Nat.zero_le _⟩) hS (pW_sub rfl) (fun v136 H1 locs hB hS _ hk136 => ?_)
          obtain ⟨hH, hv136, hp136⟩ := hB
          rw [hH] at hS ⊢
          refine lv_if_eq (tgt := 161) hx hb dX10_goesHisWay_139 (by decide) (fun c139 => ?_) (fun c139 => ?_)
          · skip
            have f139 := i_eq c139
            have hv136_139l : iv v136 0 0 := iv_eql hv136 (iv_c (x := (0 : Int32)) (k := 0) (by decide)) c139 (by decide)
            exact J161  _ _ _   hT hS (lv_sub hl [0, 1, 2] rfl)
          · skip
            have f139 := i_ne c139
            have hv136_139l : iv v136 1 1 := iv_nel hv136 (iv_c (x := (0 : Int32)) (k := 0) (by decide)) c139 (by decide)
            have hv133_139p : iv v133 0 7 := by have b0a := ((iv_top v133)).1; have b0b := ((iv_top v133)).2; exact ⟨by omega, by omega⟩
            refine lv_aload_n hx hb dX10_goesHisWay_142 rfl (lv_at hl 0 rfl) ?_
            refine lv_iload_n hx hb dX10_goesHisWay_143 rfl (lv_at hl 1 rfl) ?_
            refine lv_iconst (v := 3) hx hb dX10_goesHisWay_144 (by decide) ?_
            refine ti_calli (va_runV (As := [.int x1, .int (3 : Int32)]) (rest := []) ⟨hx, hb, hml, hown, hts⟩ (t_X10_of l hT ha0 (iv_w hx1 (by decide)) (iv_w (iv_c (x := (3 : Int32)) (k := 3) (by decide)) (by decide)) hU) (cwV 2 hts (good_V kw_490 kw_491 kw_492 kw_5 kw_493) rfl rfl rfl (by decide +kernel) ⟨by rw [hR]; decide, by rw [hR]; decide⟩) (ti_preV hK hT ha0 rfl rfl) rfl rfl hl.1 rfl (lv_room (Nat.le_of_ble_eq_true rfl)) dX10_goesHisWay_145 ⟨Nat.zero_le _, Nat.zero_le _⟩) hS (pW_sub rfl) (fun v145 H1 locs hB hS _ hk145 => ?_)
            obtain ⟨hH, hp145⟩ := hB
            rw [hH] at hS ⊢
            refine lv_iload_n hx hb dX10_goesHisWay_148 rfl (lv_at hl 1 rfl) ?_
            refine lv_icmp_eq (tgt := 161) hx hb dX10_goesHisWay_149 (by decide) (fun c149 => ?_) (fun c149 => ?_)
            · skip
              have f149 := i_eq c149
              have hv145_149l : iv v145 0 7 := iv_eql (iv_top v145) hx1 c149 (by decide)
              exact J161  _ _ _   hT hS (lv_sub hl [0, 1, 2] rfl)
            · skip
              have f149 := i_ne c149
              refine lv_aload_n hx hb dX10_goesHisWay_152 rfl (lv_at hl 0 rfl) ?_
              refine lv_iload_n hx hb dX10_goesHisWay_153 rfl (lv_at hl 1 rfl) ?_
              refine lv_iconst (v := 3) hx hb dX10_goesHisWay_154 (by decide) ?_
              refine ti_calli (va_runV (As := [.int x1, .int (3 : Int32)]) (rest := []) ⟨hx, hb, hml, hown, hts⟩ (t_X10_of l hT ha0 (iv_w hx1 (by decide)) (iv_w (iv_c (x := (3 : Int32)) (k := 3) (by decide)) (by decide)) hU) (cwV 2 hts (good_V kw_490 kw_491 kw_492 kw_5 kw_493) rfl rfl rfl (by decide +kernel) ⟨by rw [hR]; decide, by rw [hR]; decide⟩) (ti_preV hK hT ha0 rfl rfl) rfl rfl hl.1 rfl (lv_room (Nat.le_of_ble_eq_true rfl)) dX10_goesHisWay_155 ⟨Nat.zero_le _, Nat.zero_le _⟩) hS (pW_sub rfl) (fun v155 H1 locs hB hS _ hk155 => ?_)
              obtain ⟨hH, hp155⟩ := hB
              rw [hH] at hS ⊢
              have e155 := i_eq (wv_eq hp133.2 hp155.2 rfl)
              have hh158_10 : iv v155 0 7 := by have b0a := (hx1).1; have b0b := (hx1).2; have b1a := (hv3_126l).1; have b1b := (hv3_126l).2; have b2a := (hv133_139p).1; have b2b := (hv133_139p).2; have b3a := (hv136_139l).1; have b3b := (hv136_139l).2; have b4a := ((iv_top v145)).1; have b4b := ((iv_top v145)).2; have b5a := ((iv_top v155)).1; have b5b := ((iv_top v155)).2; exact ⟨by omega, by omega⟩
              refine lv_goto (tgt := 162) hx hb dX10_goesHisWay_158 (by decide) ?_
              exact J162 v155 _ _ _  (iv_w hh158_10 (by decide)) hT hS (lv_sub hl [0, 1, 2] rfl)
      · skip
        have kl1 : (1 : Int32).toInt = 1 := by decide
        have f113 := i_eq c113
        have hv3_113l : iv v3 1 1 := iv_eql (iv_top v3) (iv_c (x := (1 : Int32)) (k := 1) (by decide)) c113 (by decide)
        refine lv_aload_n hx hb dX10_goesHisWay_116 rfl (lv_at hl 0 rfl) ?_
        refine lv_iload_n hx hb dX10_goesHisWay_117 rfl (lv_at hl 1 rfl) ?_
        refine ti_calli (va_runV (As := [.int x1]) (rest := []) ⟨hx, hb, hml, hown, hts⟩ (t_X10_firstTop l hT ha0 (iv_w hx1 (by decide)) hU) (cwV 1 hts (good_V kw_995 kw_996 kw_997 kw_5 kw_998) rfl rfl rfl (by decide +kernel) ⟨by rw [hR]; decide, by rw [hR]; decide⟩) (ti_preV hK hT ha0 rfl rfl) rfl rfl hl.1 rfl (lv_room (Nat.le_of_ble_eq_true rfl)) dX10_goesHisWay_118 ⟨Nat.zero_le _, Nat.zero_le _⟩) hS (pW_sub rfl) (fun v118 H1 locs hB hS _ hk118 => ?_)
        obtain ⟨hH, hv118⟩ := hB
        rw [hH] at hS ⊢
        refine lv_goto (tgt := 162) hx hb dX10_goesHisWay_121 (by decide) ?_
        exact J162 v118 _ _ _  (iv_w hv118 (by decide)) hT hS (lv_sub hl [0, 1, 2] rfl)
    refine lv_if_ne (tgt := 111) hx hb dX10_goesHisWay_63 (by decide) (fun c63 => ?_) (fun c63 => ?_)
    · skip
      have f63 := i_ne c63
      exact J111  _ _ _   hT hS (lv_sub hl [1, 2, 0] rfl)
    · skip
      have f63 := i_eq c63
      have hv3_63l : iv v3 0 0 := iv_eql (iv_top v3) (iv_c (x := (0 : Int32)) (k := 0) (by decide)) c63 (by decide)
      refine lv_iconst (v := 0) hx hb dX10_goesHisWay_66 (by decide) ?_
      refine lv_aload_n hx hb dX10_goesHisWay_67 rfl (lv_at hl 1 rfl) ?_
      refine lv_iload_n hx hb dX10_goesHisWay_68 rfl (lv_at hl 2 rfl) ?_
      refine lv_iconst (v := 0) hx hb dX10_goesHisWay_69 (by decide) ?_
      refine ti_calli (va_runV (As := [.int x1, .int (0 : Int32)]) (rest := [.int (0 : Int32)]) ⟨hx, hb, hml, hown, hts⟩ (t_X10_of l hT ha0 (iv_w hx1 (by decide)) (iv_w (iv_c (x := (0 : Int32)) (k := 0) (by decide)) (by decide)) hU) (cwV 2 hts (good_V kw_490 kw_491 kw_492 kw_5 kw_493) rfl rfl rfl (by decide +kernel) ⟨by rw [hR]; decide, by rw [hR]; decide⟩) (ti_preV hK hT ha0 rfl rfl) rfl rfl hl.1 rfl (lv_room (Nat.le_of_ble_eq_true rfl)) dX10_goesHisWay_70 ⟨Nat.zero_le _, Nat.zero_le _⟩) hS (pW_sub rfl) (fun v70 H1 locs hB hS _ hk70 => ?_)
      obtain ⟨hH, hp70⟩ := hB
      rw [hH] at hS ⊢
      have hf70 : iv v70 (-2147483648) 100000 := by have b0a := ((iv_top v70)).1; have b0b := ((iv_top v70)).2; exact ⟨by omega, by omega⟩
      refine lv_aload_n hx hb dX10_goesHisWay_73 rfl (lv_at hl 1 rfl) ?_
      refine lv_iload_n hx hb dX10_goesHisWay_74 rfl (lv_at hl 2 rfl) ?_
      refine ti_calli (va_runV (As := [.int x1]) (rest := [.int v70, .int (0 : Int32)]) ⟨hx, hb, hml, hown, hts⟩ (t_X10_shown l hT ha0 (iv_w hx1 (by decide)) hU) (cwV 1 hts (good_V kw_553 kw_554 kw_555 kw_5 kw_556) rfl rfl rfl (by decide +kernel) ⟨by rw [hR]; decide, by rw [hR]; decide⟩) (ti_preV hK hT ha0 rfl rfl) rfl rfl hl.1 rfl (lv_room (Nat.le_of_ble_eq_true rfl)) dX10_goesHisWay_75 ⟨Nat.zero_le _, Nat.zero_le _⟩) hS (pW_sub rfl) (fun v75 H1 locs hB hS _ hk75 => ?_)
      have hH := hB
      rw [hH] at hS ⊢
      refine lv_aload_n hx hb dX10_goesHisWay_78 rfl (lv_at hl 1 rfl) ?_
      refine lv_iload_n hx hb dX10_goesHisWay_79 rfl (lv_at hl 2 rfl) ?_
      refine ti_calli (va_runV (As := [.int x1]) (rest := [.int v75, .int v70, .int (0 : Int32)]) ⟨hx, hb, hml, hown, hts⟩ (t_X10_topSeen l hT ha0 (iv_w hx1 (by decide)) hU) (cwV 1 hts (good_V kw_991 kw_992 kw_993 kw_5 kw_994) rfl rfl rfl (by decide +kernel) ⟨by rw [hR]; decide, by rw [hR]; decide⟩) (ti_preV hK hT ha0 rfl rfl) rfl rfl hl.1 rfl (lv_room (Nat.le_of_ble_eq_true rfl)) dX10_goesHisWay_80 ⟨Nat.zero_le _, Nat.zero_le _⟩) hS (pW_sub rfl) (fun v80 H1 locs hB hS _ hk80 => ?_)
      obtain ⟨hH, hv80⟩ := hB
      rw [hH] at hS ⊢
      refine lv_isub hx hb dX10_goesHisWay_83 ?_
      refine lv_topi (fun v83 e83 => ?_)
      have hv83 : iv v83 (-2147483648) 2147483647 := iv_top _
      refine va_mmin hx hb (by rw [hml]; exact hl.1.symm) hown (hts _ kw_394) (hts _ kw_211) (hts _ kw_212) (hts _ kw_213) (by rw [hR]; decide) (by rw [hR]; exact Nat.le_of_ble_eq_true rfl) (Nat.zero_le _) (Nat.zero_le _) dX10_goesHisWay_84 ?_
      refine lv_topi (fun v84 e84 => ?_)
      have hv84 : iv v84 (-2147483648) 100000 := by rw [e84]; exact iv_min hf70 hv83 (by decide)
      refine va_mmax hx hb (by rw [hml]; exact hl.1.symm) hown (hts _ kw_617) (hts _ kw_618) (hts _ kw_212) (hts _ kw_619) (by rw [hR]; decide) (by rw [hR]; exact Nat.le_of_ble_eq_true rfl) (Nat.zero_le _) (Nat.zero_le _) dX10_goesHisWay_87 ?_
      refine lv_topi (fun v87 e87 => ?_)
      have hv87 : iv v87 0 100000 := by rw [e87]; exact iv_max (iv_c (x := (0 : Int32)) (k := 0) (by decide)) hv84 (by decide)
      refine lv_istore_n (lv' := [(3, .int v87), (2, .int v3), (0, .ref a0), (1, .int x1)]) hx hb dX10_goesHisWay_90 rfl hl (by decide) rfl (fun ls hl => ?_)
      refine lv_aload_n hx hb dX10_goesHisWay_91 rfl (lv_at hl 2 rfl) ?_
      refine lv_iload_n hx hb dX10_goesHisWay_92 rfl (lv_at hl 3 rfl) ?_
      refine lv_aload_n hx hb dX10_goesHisWay_93 rfl (lv_at hl 2 rfl) ?_
      refine lv_iload_n hx hb dX10_goesHisWay_94 rfl (lv_at hl 3 rfl) ?_
      refine lv_iconst (v := 0) hx hb dX10_goesHisWay_95 (by decide) ?_
      refine ti_calli (va_runV (As := [.int x1, .int (0 : Int32)]) (rest := [.int x1, .ref a0]) ⟨hx, hb, hml, hown, hts⟩ (t_X10_of l hT ha0 (iv_w hx1 (by decide)) (iv_w (iv_c (x := (0 : Int32)) (k := 0) (by decide)) (by decide)) hU) (cwV 2 hts (good_V kw_490 kw_491 kw_492 kw_5 kw_493) rfl rfl rfl (by decide +kernel) ⟨by rw [hR]; decide, by rw [hR]; decide⟩) (ti_preV hK hT ha0 rfl rfl) rfl rfl hl.1 rfl (lv_room (Nat.le_of_ble_eq_true rfl)) dX10_goesHisWay_96 ⟨Nat.zero_le _, Nat.zero_le _⟩) hS (pW_sub rfl) (fun v96 H1 locs hB hS _ hk96 => ?_)
      obtain ⟨hH, hp96⟩ := hB
      rw [hH] at hS ⊢
      have hf96 : iv v96 (-2147483648) 100000 := by have b0a := ((iv_top v96)).1; have b0b := ((iv_top v96)).2; exact ⟨by omega, by omega⟩
      refine lv_iload_n hx hb dX10_goesHisWay_99 rfl (lv_at hl 0 rfl) ?_
      refine lv_isub hx hb dX10_goesHisWay_100 ?_
      refine lv_topi (fun v100 e100 => ?_)
      have hv100 : iv v100 (-2147483648) 2147483647 := iv_top _
      refine ti_callv (va_runV (As := [.int x1, .int v100]) (rest := []) ⟨hx, hb, hml, hown, hts⟩ (t_X10_has l hT ha0 (iv_w hx1 (by decide)) (iv_w hv100 (by decide)) hU) (cwV 2 hts (good_V kw_507 kw_508 kw_509 kw_5 kw_510) rfl rfl rfl (by decide +kernel) ⟨by rw [hR]; decide, by rw [hR]; decide⟩) (ti_preV hK hT ha0 rfl rfl) rfl rfl hl.1 rfl (lv_room (Nat.le_of_ble_eq_true rfl)) dX10_goesHisWay_101 ⟨Nat.zero_le _, Nat.zero_le _⟩) hS (pW_sub rfl) (fun H locs hB hS _ hk101 => ?_)
      obtain ⟨hT, hp101⟩ := hB
      refine lv_aload_n hx hb dX10_goesHisWay_104 rfl (lv_at hl 2 rfl) ?_
      refine ti_getr hx hb hts inlX10 hown hK hT ha0 rfl rfl rfl 25 (by decide) (hts _ kw_143) (fun _ h9 => h9) rfl dX10_goesHisWay_105 (fun v105 hv105 hm105 => ?_)
      refine lv_iload_n hx hb dX10_goesHisWay_108 rfl (lv_at hl 3 rfl) ?_
      refine lv_iload_n hx hb dX10_goesHisWay_109 rfl (lv_at hl 0 rfl) ?_
      refine ti_iast hx hb (aT0 hK) hT hS hv105 rfl rfl hx1 (by decide) (fun _ _ _ => ⟨_, _, rfl, by decide, by decide⟩) hv87 (fun _ _ => trivial) dX10_goesHisWay_110 (fun H locs hT hS oq110 he110 hk110 => ?_)
      exact J111  _ _ _   hT hS (lv_sub hl [2, 3, 1] rfl)
  · skip
    have kl5 : (5 : Int32).toInt = 5 := by decide
    have f9 := i_eq c9
    have hv3_9l : iv v3 5 5 := iv_eql (iv_top v3) (iv_c (x := (5 : Int32)) (k := 5) (by decide)) c9 (by decide)
    refine lv_aload_n hx hb dX10_goesHisWay_12 rfl (lv_at hl 1 rfl) ?_
    refine lv_iload_n hx hb dX10_goesHisWay_13 rfl (lv_at hl 2 rfl) ?_
    refine ti_callv (va_runV (As := [.int x1]) (rest := []) ⟨hx, hb, hml, hown, hts⟩ (t_X10_guesses l hT ha0 (iv_w hx1 (by decide)) hU) (cwV 1 hts (good_V kw_952 kw_953 kw_954 kw_5 kw_955) rfl rfl rfl (by decide +kernel) ⟨by rw [hR]; decide, by rw [hR]; decide⟩) (ti_preV hK hT ha0 rfl rfl) rfl rfl hl.1 rfl (lv_room (Nat.le_of_ble_eq_true rfl)) dX10_goesHisWay_14 ⟨Nat.zero_le _, Nat.zero_le _⟩) hS (pW_sub rfl) (fun H locs hB hS _ hk14 => ?_)
    have hT := hB
    refine lv_aload_n hx hb dX10_goesHisWay_17 rfl (lv_at hl 1 rfl) ?_
    refine lv_iload_n hx hb dX10_goesHisWay_18 rfl (lv_at hl 2 rfl) ?_
    refine lv_iconst (v := 1) hx hb dX10_goesHisWay_19 (by decide) ?_
    refine ti_callv (va_runV (As := [.int x1, .int (1 : Int32)]) (rest := []) ⟨hx, hb, hml, hown, hts⟩ (t_X10_findsBest l hT ha0 (iv_w hx1 (by decide)) (iv_w (iv_c (x := (1 : Int32)) (k := 1) (by decide)) (by decide)) hU) (cwV 2 hts (good_V kw_956 kw_957 kw_958 kw_5 kw_959) rfl rfl rfl (by decide +kernel) ⟨by rw [hR]; decide, by rw [hR]; decide⟩) (ti_preV hK hT ha0 rfl rfl) rfl rfl hl.1 rfl (lv_room (Nat.le_of_ble_eq_true rfl)) dX10_goesHisWay_20 ⟨Nat.zero_le _, Nat.zero_le _⟩) hS (pW_sub rfl) (fun H locs hB hS _ hk20 => ?_)
    have hT := hB
    refine lv_aload_n hx hb dX10_goesHisWay_23 rfl (lv_at hl 1 rfl) ?_
    refine lv_iload_n hx hb dX10_goesHisWay_24 rfl (lv_at hl 2 rfl) ?_
    refine lv_aload_n hx hb dX10_goesHisWay_25 rfl (lv_at hl 1 rfl) ?_
    refine ti_getr hx hb hts inlX10 hown hK hT ha0 rfl rfl rfl 24 (by decide) (hts _ kw_142) (fun _ h9 => h9) rfl dX10_goesHisWay_26 (fun v26 hv26 hm26 => ?_)
    refine lv_iconst (v := 1) hx hb dX10_goesHisWay_29 (by decide) ?_
    refine ti_iald (lo := (-2147483648)) (hi := 2147483647) hx hb (aT0 hK) hT hv26 rfl (iv_c (x := (1 : Int32)) (k := 1) (by decide)) (by decide) (one_j 1 rfl rfl (by decide) (by decide)) dX10_goesHisWay_30 (fun v30 hv30 hm30 => ?_)
    refine lv_aload_n hx hb dX10_goesHisWay_31 rfl (lv_at hl 1 rfl) ?_
    refine ti_getE (ci := 10) (v := .ref v26) hx hb hts inlX10 hown hK hm26 rfl (by decide) (hts _ kw_142) (fun _ h9 => h9) dX10_goesHisWay_32 ?_
    refine lv_iconst (v := 2) hx hb dX10_goesHisWay_35 (by decide) ?_
    refine ti_iald (lo := (-2147483648)) (hi := 2147483647) hx hb (aT0 hK) hT hv26 rfl (iv_c (x := (2 : Int32)) (k := 2) (by decide)) (by decide) (one_j 2 rfl rfl (by decide) (by decide)) dX10_goesHisWay_36 (fun v36 hv36 hm36 => ?_)
    refine lv_aload_n hx hb dX10_goesHisWay_37 rfl (lv_at hl 1 rfl) ?_
    refine ti_getE (ci := 10) (v := .ref v26) hx hb hts inlX10 hown hK hm26 rfl (by decide) (hts _ kw_142) (fun _ h9 => h9) dX10_goesHisWay_38 ?_
    refine lv_iconst (v := 3) hx hb dX10_goesHisWay_41 (by decide) ?_
    refine ti_iald (lo := (-2147483648)) (hi := 2147483647) hx hb (aT0 hK) hT hv26 rfl (iv_c (x := (3 : Int32)) (k := 3) (by decide)) (by decide) (one_j 3 rfl rfl (by decide) (by decide)) dX10_goesHisWay_42 (fun v42 hv42 hm42 => ?_)
    refine lv_aload_n hx hb dX10_goesHisWay_43 rfl (lv_at hl 1 rfl) ?_
    refine ti_getE (ci := 10) (v := .ref v26) hx hb hts inlX10 hown hK hm26 rfl (by decide) (hts _ kw_142) (fun _ h9 => h9) dX10_goesHisWay_44 ?_
    refine lv_iconst (v := 4) hx hb dX10_goesHisWay_47 (by decide) ?_
    refine ti_iald (lo := (-1)) (hi := 7) hx hb (aT0 hK) hT hv26 rfl (iv_c (x := (4 : Int32)) (k := 4) (by decide)) (by decide) (one_j 4 rfl rfl (by decide) (by decide)) dX10_goesHisWay_48 (fun v48 hv48 hm48 => ?_)
    have hrel := best_rel hT hv26 hm42 hm48
    refine ti_callv (va_runV (As := [.int x1, .int v30, .int v36, .int v42, .int v48]) (rest := []) ⟨hx, hb, hml, hown, hts⟩ (t_X10_does l hT ha0 (iv_w hx1 (by decide)) (iv_w hv30 (by decide)) (iv_w hv36 (by decide)) (iv_w hv42 (by decide)) (iv_w hv48 (by decide)) (fun h9 => by have b0a := (hv42).1; have b0b := (hv42).2; have b1a := (hv48).1; have b1b := (hv48).2; omega) hU) (cwV 5 hts (good_V kw_987 kw_988 kw_989 kw_5 kw_990) rfl rfl rfl (by decide +kernel) ⟨by rw [hR]; decide, by rw [hR]; decide⟩) (ti_preV hK hT ha0 rfl rfl) rfl rfl hl.1 rfl (lv_room (Nat.le_of_ble_eq_true rfl)) dX10_goesHisWay_49 ⟨Nat.zero_le _, Nat.zero_le _⟩) hS (pW_sub rfl) (fun H locs hB hS _ hk49 => ?_)
    have hT := hB
    exact ret _ _ _ _ dX10_goesHisWay_52 (hT) hS
set_option maxHeartbeats 4000000 in
set_option maxRecDepth 100000 in
theorem t_X10_day (l : Launch) {D : va_G} {c0 : Nat → ClassId} {Y : Nat → Option Nat} {ν : Nat → Nat} {H : Heap} (hT : TI D vwCl (tysOf c0) (RTg ν) Y H) {a0 : Nat} (ha0 : Y a0 = some 10) (hU : uq Y) : Met l yX10_day (wz yX10_day cX10_day 3 (some .int)) { frames := 8, cells := 0, slots := 0, locals := 242 } (TP D vwCl (tysOf c0) H [.ref a0]) (TQi (fun x H' => TI D vwCl (tysOf c0) (RTg ν) Y H') Y [10, 29, 30, 43]) 0 0 (pW Y [10, 29, 30, 43]) := by
  refine Met.ofW (cc := cX10_day) (maxL := 3) (ret := (some .int)) (by decide) rfl ?_
  intro p e s m args below meth c s₁ B hml hv
  obtain ⟨rfl, rfl, hK⟩ := hv
  have hx := B.exec
  have hb := B.bytes
  have hr := B.returns
  have hts : ∀ w ∈ wq, w.before _ s = true := fun w h => atoms_spec (ws := wz yX10_day cX10_day 3 (some .int)) B.pre w (List.mem_cons_of_mem _ h)
  have hown : s.vm.findClass RX10 = some m.cls := findClass_of_methodNamed B.named
  have hlocks := B.notSynchronized
  obtain ⟨R, hR⟩ : ∃ R : Room, R = ({ frames := 8, cells := 0, slots := 0, locals := 242 } : Room) := ⟨_, rfl⟩
  rw [show (headSpec (wz yX10_day cX10_day 3 (some .int)) { frames := 8, cells := 0, slots := 0, locals := 242 }).room = R from hR.symm]
  refine ti_mi hx hb hr hlocks (fun Q ret => ?_)
  have hl := lv_entry [.ref a0] (n := 3) (Nat.le_of_ble_eq_true rfl)
  rw [lg_entry_eq]
  generalize (lg_sl [.ref a0] ++ List.replicate (3 - (lg_sl [.ref a0]).length) Slot.unset).toArray = ls at hl ⊢
  have hl : lv_has ls 3 [(0, .ref a0)] := hl
  refine ti_gen (P := fun H => TI D vwCl (tysOf c0) (RTg ν) Y H) (Y := Y) (ws := [10, 29, 30, 43]) hT (fun H locs hT hS => ?_)
  refine lv_iconst (v := 0) hx hb dX10_day_0 (by decide) ?_
  have J2 : ∀ (n : Nat) (j2_L1 : Int32) (H : Heap) (locs : List Loc) (ls : Array Slot), (8 - j2_L1.toInt).toNat < n → iv j2_L1 0 8 → TI D vwCl (tysOf c0) (RTg ν) Y H → va_S (pW Y [10, 29, 30, 43]) s.heap H locs → lv_has ls 3 [(0, .ref a0), (1, .int j2_L1)] → W p l e R s m ([.ref a0] : List Value).toArray below meth c H locs 0 0 Q (F0 m 2 ls []) := by
    intro n
    induction n with
    | zero => intro j2_L1 H locs ls hms; exact absurd hms (Nat.not_lt_zero _)
    | succ n ih2 =>
      intro j2_L1 H locs ls hms2 hj2_L1 hT hS hl
      refine lv_iload_n hx hb dX10_day_2 rfl (lv_at hl 1 rfl) ?_
      refine lv_aload_n hx hb dX10_day_3 rfl (lv_at hl 0 rfl) ?_
      refine ti_calli (va_runV (As := []) (rest := [.int j2_L1]) ⟨hx, hb, hml, hown, hts⟩ (t_X10_people l hT ha0 hU) (cwV 0 hts (good_V kw_605 kw_606 kw_607 kw_5 kw_608) rfl rfl rfl (by decide +kernel) ⟨by rw [hR]; decide, by rw [hR]; decide⟩) (ti_preV hK hT ha0 rfl rfl) rfl rfl hl.1 rfl (lv_room (Nat.le_of_ble_eq_true rfl)) dX10_day_4 ⟨Nat.zero_le _, Nat.zero_le _⟩) hS (pW_sub rfl) (fun v4 H1 locs hB hS _ hk4 => ?_)
      obtain ⟨hH, hv4, hp4⟩ := hB
      rw [hH] at hS ⊢
      refine lv_icmp_ge (tgt := 21) hx hb dX10_day_7 (by decide) (fun c7 => ?_) (fun c7 => ?_)
      · skip
        have f7 := i_le c7
        refine lv_aload_n hx hb dX10_day_21 rfl (lv_at hl 0 rfl) ?_
        refine ti_calli (va_runV (As := []) (rest := []) ⟨hx, hb, hml, hown, hts⟩ (t_X10_strikes l hT ha0 hU) (cwV 0 hts (good_V kw_719 kw_720 kw_721 kw_5 kw_722) rfl rfl rfl (by decide +kernel) ⟨by rw [hR]; decide, by rw [hR]; decide⟩) (ti_preV hK hT ha0 rfl rfl) rfl rfl hl.1 rfl (lv_room (Nat.le_of_ble_eq_true rfl)) dX10_day_22 ⟨Nat.zero_le _, Nat.zero_le _⟩) hS (pW_sub rfl) (fun v22 H locs hB hS _ hk22 => ?_)
        have hT := hB
        refine lv_istore_n (lv' := [(1, .int v22), (0, .ref a0)]) hx hb dX10_day_25 rfl hl (by decide) rfl (fun ls hl => ?_)
        refine lv_iconst (v := 0) hx hb dX10_day_26 (by decide) ?_
        have J28 : ∀ (n : Nat) (j28_L2 : Int32) (H : Heap) (locs : List Loc) (ls : Array Slot), (8 - j28_L2.toInt).toNat < n → iv j28_L2 0 8 → TI D vwCl (tysOf c0) (RTg ν) Y H → va_S (pW Y [10, 29, 30, 43]) s.heap H locs → lv_has ls 3 [(0, .ref a0), (1, .int v22), (2, .int j28_L2)] → W p l e R s m ([.ref a0] : List Value).toArray below meth c H locs 0 0 Q (F0 m 28 ls []) := by
          intro n
          induction n with
          | zero => intro j28_L2 H locs ls hms; exact absurd hms (Nat.not_lt_zero _)
          | succ n ih28 =>
            intro j28_L2 H locs ls hms28 hj28_L2 hT hS hl
            refine lv_iload_n hx hb dX10_day_28 rfl (lv_at hl 2 rfl) ?_
            refine lv_aload_n hx hb dX10_day_29 rfl (lv_at hl 0 rfl) ?_
            refine ti_calli (va_runV (As := []) (rest := [.int j28_L2]) ⟨hx, hb, hml, hown, hts⟩ (t_X10_people l hT ha0 hU) (cwV 0 hts (good_V kw_605 kw_606 kw_607 kw_5 kw_608) rfl rfl rfl (by decide +kernel) ⟨by rw [hR]; decide, by rw [hR]; decide⟩) (ti_preV hK hT ha0 rfl rfl) rfl rfl hl.1 rfl (lv_room (Nat.le_of_ble_eq_true rfl)) dX10_day_30 ⟨Nat.zero_le _, Nat.zero_le _⟩) hS (pW_sub rfl) (fun v30 H1 locs hB hS _ hk30 => ?_)
            obtain ⟨hH, hv30, hp30⟩ := hB
            rw [hH] at hS ⊢
            refine lv_icmp_ge (tgt := 113) hx hb dX10_day_33 (by decide) (fun c33 => ?_) (fun c33 => ?_)
            · skip
              have f33 := i_le c33
              refine lv_aload_n hx hb dX10_day_113 rfl (lv_at hl 0 rfl) ?_
              refine ti_getr hx hb hts inlX10 hown hK hT ha0 rfl rfl rfl 1 (by decide) (hts _ kw_130) (fun _ h9 => h9) rfl dX10_day_114 (fun v114 hv114 hm114 => ?_)
              refine lv_bipush (v := 11) hx hb dX10_day_117 (by decide) ?_
              refine lv_dup2_11 hx hb dX10_day_119 rfl rfl ?_
              refine ti_iald (lo := (-2147483648)) (hi := 2147483647) hx hb (aT0 hK) hT hv114 rfl (iv_c (x := (11 : Int32)) (k := 11) (by decide)) (by decide) (one_j 11 rfl rfl (by decide) (by decide)) dX10_day_120 (fun v120 hv120 hm120 => ?_)
              refine lv_iconst (v := 1) hx hb dX10_day_121 (by decide) ?_
              refine lv_iadd hx hb dX10_day_122 ?_
              refine lv_topi (fun v122 e122 => ?_)
              have hv122 : iv v122 (-2147483648) 2147483647 := iv_top _
              refine ti_iast hx hb (aT0 hK) hT hS hv114 rfl rfl (iv_c (x := (11 : Int32)) (k := 11) (by decide)) (by decide) (one_s 11 rfl rfl (by decide) (by decide)) hv122 (fun _ _ => trivial) dX10_day_123 (fun H locs hT hS oq123 he123 hk123 => ?_)
              refine lv_iload_n hx hb dX10_day_124 rfl (lv_at hl 1 rfl) ?_
              exact ret _ _ _ _ _ dX10_day_125 (hT) hS
            · skip
              have f33 := i_nle c33
              have hj28_L2_33l : iv j28_L2 0 7 := iv_ltl hj28_L2 hv30 (Int32.not_le.mp c33) (by decide)
              have hv30_33r : iv v30 1 8 := iv_ltr hj28_L2_33l hv30 (Int32.not_le.mp c33) (by decide)
              refine lv_aload_n hx hb dX10_day_36 rfl (lv_at hl 0 rfl) ?_
              refine lv_iload_n hx hb dX10_day_37 rfl (lv_at hl 2 rfl) ?_
              refine lv_iconst (v := 4) hx hb dX10_day_38 (by decide) ?_
              refine lv_aload_n hx hb dX10_day_39 rfl (lv_at hl 0 rfl) ?_
              refine lv_iload_n hx hb dX10_day_40 rfl (lv_at hl 2 rfl) ?_
              refine lv_iconst (v := 4) hx hb dX10_day_41 (by decide) ?_
              refine ti_calli (va_runV (As := [.int j28_L2, .int (4 : Int32)]) (rest := [.int (4 : Int32), .int j28_L2, .ref a0]) ⟨hx, hb, hml, hown, hts⟩ (t_X10_of l hT ha0 (iv_w hj28_L2_33l (by decide)) (iv_w (iv_c (x := (4 : Int32)) (k := 4) (by decide)) (by decide)) hU) (cwV 2 hts (good_V kw_490 kw_491 kw_492 kw_5 kw_493) rfl rfl rfl (by decide +kernel) ⟨by rw [hR]; decide, by rw [hR]; decide⟩) (ti_preV hK hT ha0 rfl rfl) rfl rfl hl.1 rfl (lv_room (Nat.le_of_ble_eq_true rfl)) dX10_day_42 ⟨Nat.zero_le _, Nat.zero_le _⟩) hS (pW_sub rfl) (fun v42 H1 locs hB hS _ hk42 => ?_)
              obtain ⟨hH, hp42⟩ := hB
              rw [hH] at hS ⊢
              have kl4 : (4 : Int32).toInt = 4 := by decide
              refine lv_aload_n hx hb dX10_day_45 rfl (lv_at hl 0 rfl) ?_
              refine lv_iload_n hx hb dX10_day_46 rfl (lv_at hl 2 rfl) ?_
              refine lv_bipush (v := 7) hx hb dX10_day_47 (by decide) ?_
              refine ti_calli (va_runV (As := [.int j28_L2, .int (7 : Int32)]) (rest := [.int v42, .int (4 : Int32), .int j28_L2, .ref a0]) ⟨hx, hb, hml, hown, hts⟩ (t_X10_of l hT ha0 (iv_w hj28_L2_33l (by decide)) (iv_w (iv_c (x := (7 : Int32)) (k := 7) (by decide)) (by decide)) hU) (cwV 2 hts (good_V kw_490 kw_491 kw_492 kw_5 kw_493) rfl rfl rfl (by decide +kernel) ⟨by rw [hR]; decide, by rw [hR]; decide⟩) (ti_preV hK hT ha0 rfl rfl) rfl rfl hl.1 rfl (lv_room (Nat.le_of_ble_eq_true rfl)) dX10_day_49 ⟨Nat.zero_le _, Nat.zero_le _⟩) hS (pW_sub rfl) (fun v49 H1 locs hB hS _ hk49 => ?_)
              obtain ⟨hH, hp49⟩ := hB
              rw [hH] at hS ⊢
              have kl7 : (7 : Int32).toInt = 7 := by decide
              refine lv_aload_n hx hb dX10_day_52 rfl (lv_at hl 0 rfl) ?_
              refine lv_iload_n hx hb dX10_day_53 rfl (lv_at hl 2 rfl) ?_
              refine lv_iconst (v := 0) hx hb dX10_day_54 (by decide) ?_
              refine ti_calli (va_runV (As := [.int j28_L2, .int (0 : Int32)]) (rest := [.int v49, .int v42, .int (4 : Int32), .int j28_L2, .ref a0]) ⟨hx, hb, hml, hown, hts⟩ (t_X10_of l hT ha0 (iv_w hj28_L2_33l (by decide)) (iv_w (iv_c (x := (0 : Int32)) (k := 0) (by decide)) (by decide)) hU) (cwV 2 hts (good_V kw_490 kw_491 kw_492 kw_5 kw_493) rfl rfl rfl (by decide +kernel) ⟨by rw [hR]; decide, by rw [hR]; decide⟩) (ti_preV hK hT ha0 rfl rfl) rfl rfl hl.1 rfl (lv_room (Nat.le_of_ble_eq_true rfl)) dX10_day_55 ⟨Nat.zero_le _, Nat.zero_le _⟩) hS (pW_sub rfl) (fun v55 H1 locs hB hS _ hk55 => ?_)
              obtain ⟨hH, hp55⟩ := hB
              rw [hH] at hS ⊢
              have kl0 : (0 : Int32).toInt = 0 := by decide
              have hf55 : iv v55 (-2147483648) 100000 := by have b0a := ((iv_top v55)).1; have b0b := ((iv_top v55)).2; exact ⟨by omega, by omega⟩
              refine lv_imul hx hb dX10_day_58 ?_
              refine lv_topi (fun v58 e58 => ?_)
              have hv58 : iv v58 (-2147483648) 2147483647 := iv_top _
              refine lv_iadd hx hb dX10_day_59 ?_
              refine lv_topi (fun v59 e59 => ?_)
              have hv59 : iv v59 (-2147483648) 2147483647 := iv_top _
              refine lv_aload_n hx hb dX10_day_60 rfl (lv_at hl 0 rfl) ?_
              refine lv_iload_n hx hb dX10_day_61 rfl (lv_at hl 2 rfl) ?_
              refine lv_aload_n hx hb dX10_day_62 rfl (lv_at hl 0 rfl) ?_
              refine ti_getr hx hb hts inlX10 hown hK hT ha0 rfl rfl rfl 25 (by decide) (hts _ kw_143) (fun _ h9 => h9) rfl dX10_day_63 (fun v63 hv63 hm63 => ?_)
              refine lv_iload_n hx hb dX10_day_66 rfl (lv_at hl 2 rfl) ?_
              refine ti_iald (lo := (-2147483648)) (hi := 2147483647) hx hb (aT0 hK) hT hv63 rfl hj28_L2_33l (by decide) (fun _ _ _ => ⟨_, _, rfl, by decide, by decide⟩) dX10_day_67 (fun v67 hv67 hm67 => ?_)
              refine ti_calli (va_runV (As := [.int j28_L2, .int v67]) (rest := [.int v59, .int (4 : Int32), .int j28_L2, .ref a0]) ⟨hx, hb, hml, hown, hts⟩ (t_X10_joy l hT ha0 (iv_w hj28_L2_33l (by decide)) (iv_w hv67 (by decide)) hU) (cwV 2 hts (good_V kw_791 kw_792 kw_793 kw_5 kw_794) rfl rfl rfl (by decide +kernel) ⟨by rw [hR]; decide, by rw [hR]; decide⟩) (ti_preV hK hT ha0 rfl rfl) rfl rfl hl.1 rfl (lv_room (Nat.le_of_ble_eq_true rfl)) dX10_day_68 ⟨Nat.zero_le _, Nat.zero_le _⟩) hS (pW_sub rfl) (fun v68 H1 locs hB hS _ hk68 => ?_)
              have hH := hB
              rw [hH] at hS ⊢
              refine lv_iadd hx hb dX10_day_71 ?_
              refine lv_topi (fun v71 e71 => ?_)
              have hv71 : iv v71 (-2147483648) 2147483647 := iv_top _
              refine lv_aload_n hx hb dX10_day_72 rfl (lv_at hl 0 rfl) ?_
              refine ti_getr hx hb hts inlX10 hown hK hT ha0 rfl rfl rfl 26 (by decide) (hts _ kw_144) (fun _ h9 => h9) rfl dX10_day_73 (fun v73 hv73 hm73 => ?_)
              refine lv_iload_n hx hb dX10_day_76 rfl (lv_at hl 2 rfl) ?_
              refine ti_iald (lo := (-2147483648)) (hi := 2147483647) hx hb (aT0 hK) hT hv73 rfl hj28_L2_33l (by decide) (fun _ _ _ => ⟨_, _, rfl, by decide, by decide⟩) dX10_day_77 (fun v77 hv77 hm77 => ?_)
              refine lv_aload_n hx hb dX10_day_78 rfl (lv_at hl 0 rfl) ?_
              refine lv_iload_n hx hb dX10_day_79 rfl (lv_at hl 2 rfl) ?_
              refine lv_bipush (v := 6) hx hb dX10_day_80 (by decide) ?_
              refine ti_calli (va_runV (As := [.int j28_L2, .int (6 : Int32)]) (rest := [.int v77, .int v71, .int (4 : Int32), .int j28_L2, .ref a0]) ⟨hx, hb, hml, hown, hts⟩ (t_X10_of l hT ha0 (iv_w hj28_L2_33l (by decide)) (iv_w (iv_c (x := (6 : Int32)) (k := 6) (by decide)) (by decide)) hU) (cwV 2 hts (good_V kw_490 kw_491 kw_492 kw_5 kw_493) rfl rfl rfl (by decide +kernel) ⟨by rw [hR]; decide, by rw [hR]; decide⟩) (ti_preV hK hT ha0 rfl rfl) rfl rfl hl.1 rfl (lv_room (Nat.le_of_ble_eq_true rfl)) dX10_day_82 ⟨Nat.zero_le _, Nat.zero_le _⟩) hS (pW_sub rfl) (fun v82 H1 locs hB hS _ hk82 => ?_)
              obtain ⟨hH, hp82⟩ := hB
              rw [hH] at hS ⊢
              have kl6 : (6 : Int32).toInt = 6 := by decide
              refine lv_imul hx hb dX10_day_85 ?_
              refine lv_topi (fun v85 e85 => ?_)
              have hv85 : iv v85 (-2147483648) 2147483647 := iv_top _
              refine lv_isub hx hb dX10_day_86 ?_
              refine lv_topi (fun v86 e86 => ?_)
              have hv86 : iv v86 (-2147483648) 2147483647 := iv_top _
              refine ti_callv (va_runV (As := [.int j28_L2, .int (4 : Int32), .int v86]) (rest := []) ⟨hx, hb, hml, hown, hts⟩ (t_X10_set l hT ha0 (iv_w hj28_L2_33l (by decide)) (iv_w (iv_c (x := (4 : Int32)) (k := 4) (by decide)) (by decide)) (iv_w hv86 (by decide)) (fun h9 => by have b0a := (hj28_L2_33l).1; have b0b := (hj28_L2_33l).2; have b1a := (hv86).1; have b1b := (hv86).2; omega) hU) (cwV 3 hts (good_V kw_511 kw_512 kw_513 kw_5 kw_514) rfl rfl rfl (by decide +kernel) ⟨by rw [hR]; decide, by rw [hR]; decide⟩) (ti_preV hK hT ha0 rfl rfl) rfl rfl hl.1 rfl (lv_room (Nat.le_of_ble_eq_true rfl)) dX10_day_87 ⟨Nat.zero_le _, Nat.zero_le _⟩) hS (pW_sub rfl) (fun H locs hB hS _ hk87 => ?_)
              obtain ⟨hT, hp87⟩ := hB
              refine lv_aload_n hx hb dX10_day_90 rfl (lv_at hl 0 rfl) ?_
              refine lv_dup hx hb dX10_day_91 rfl ?_
              refine ti_geti hx hb hts inlX10 hown hK hT ha0 rfl rfl rfl 27 (by decide) (hts _ kw_943) (fun _ h9 => h9) rfl dX10_day_92 (fun v92 hv92 hm92 => ?_)
              refine lv_iconst (v := 1) hx hb dX10_day_95 (by decide) ?_
              refine lv_aload_n hx hb dX10_day_96 rfl (lv_at hl 0 rfl) ?_
              refine ti_getE (ci := 10) (v := .ref v73) hx hb hts inlX10 hown hK (hm73.call hk87 (pW_not ha0 rfl)) rfl (by decide) (hts _ kw_144) (fun _ h9 => h9) dX10_day_97 ?_
              refine lv_iload_n hx hb dX10_day_100 rfl (lv_at hl 2 rfl) ?_
              refine ti_ialdE (v := .int v77) hx hb (aT0 hK) hT hv73 rfl hj28_L2_33l (by decide) ((hm77.call hk87 (pW_not hv73 rfl))) dX10_day_101 ?_
              refine lv_isub hx hb dX10_day_102 ?_
              refine lv_topi (fun v102 e102 => ?_)
              have hv102 : iv v102 (-2147483648) 2147483647 := iv_top _
              refine lv_iadd hx hb dX10_day_103 ?_
              refine lv_topi (fun v103 e103 => ?_)
              have hv103 : iv v103 (-2147483648) 2147483647 := iv_top _
              refine ti_put (ty := .int) hx hb hts inlX10 tyX10 tyX10_ok nmX10 hown hK hT hS ha0 rfl rfl rfl rfl 27 (by decide) (hts _ kw_943) (fun _ h9 => h9) rfl rfl (by decide +kernel) rfl rfl ⟨v103, rfl, iv_w hv103 (by decide)⟩ (fun _ _ => trivial) dX10_day_104 (fun H locs hT hS oq104 he104 hk104 => ?_)
              obtain ⟨v107, e107⟩ : ∃ y : Int32, y = j28_L2 + 1 := ⟨_, rfl⟩
              have hv107 : iv v107 1 8 := by rw [e107]; exact iv_w (iv_add hj28_L2_33l (iv_c (x := (1 : Int32)) (k := 1) (by decide)) (by decide)) (by decide)
              have s107 : v107.toInt = j28_L2.toInt + 1 := by rw [e107, iv_addE hj28_L2_33l (iv_c (x := (1 : Int32)) (k := 1) (by decide)) (by decide)]; rfl
              refine lv_iinc (v := v107) (lv' := [(2, .int v107), (0, .ref a0), (1, .int v22)]) hx hb dX10_day_107 hl (k := 2) rfl (by rw [e107]; rfl) (by decide) rfl (fun ls hl => ?_)
              refine lv_goto (tgt := 28) hx hb dX10_day_110 (by decide) ?_
              exact ih28 v107 _ _ _ (ms_up hms28 (by have := s107; omega) (iv_w (c := 1) (d := 8) hv107 (by decide)).2) (iv_w hv107 (by decide)) hT hS (lv_sub hl [1, 2, 0] rfl)
        refine lv_istore_n (lv' := [(2, .int (0 : Int32)), (1, .int v22), (0, .ref a0)]) hx hb dX10_day_27 rfl hl (by decide) rfl (fun ls hl => ?_)
        exact J28 _ (0 : Int32) _ _ _ (Nat.lt_succ_self _) (iv_w (iv_c (x := (0 : Int32)) (k := 0) (by decide)) (by decide)) hT hS (lv_sub hl [2, 1, 0] rfl)
      · skip
        have f7 := i_nle c7
        have hj2_L1_7l : iv j2_L1 0 7 := iv_ltl hj2_L1 hv4 (Int32.not_le.mp c7) (by decide)
        have hv4_7r : iv v4 1 8 := iv_ltr hj2_L1_7l hv4 (Int32.not_le.mp c7) (by decide)
        refine lv_aload_n hx hb dX10_day_10 rfl (lv_at hl 0 rfl) ?_
        refine lv_iload_n hx hb dX10_day_11 rfl (lv_at hl 1 rfl) ?_
        refine ti_callv (va_runV (As := [.int j2_L1]) (rest := []) ⟨hx, hb, hml, hown, hts⟩ (t_X10_goesHisWay l hT ha0 (iv_w hj2_L1_7l (by decide)) hU) (cwV 1 hts (good_V kw_948 kw_949 kw_950 kw_5 kw_951) rfl rfl rfl (by decide +kernel) ⟨by rw [hR]; decide, by rw [hR]; decide⟩) (ti_preV hK hT ha0 rfl rfl) rfl rfl hl.1 rfl (lv_room (Nat.le_of_ble_eq_true rfl)) dX10_day_12 ⟨Nat.zero_le _, Nat.zero_le _⟩) hS (pW_sub rfl) (fun H locs hB hS _ hk12 => ?_)
        have hT := hB
        obtain ⟨v15, e15⟩ : ∃ y : Int32, y = j2_L1 + 1 := ⟨_, rfl⟩
        have hv15 : iv v15 1 8 := by rw [e15]; exact iv_w (iv_add hj2_L1_7l (iv_c (x := (1 : Int32)) (k := 1) (by decide)) (by decide)) (by decide)
        have s15 : v15.toInt = j2_L1.toInt + 1 := by rw [e15, iv_addE hj2_L1_7l (iv_c (x := (1 : Int32)) (k := 1) (by decide)) (by decide)]; rfl
        refine lv_iinc (v := v15) (lv' := [(1, .int v15), (0, .ref a0)]) hx hb dX10_day_15 hl (k := 1) rfl (by rw [e15]; rfl) (by decide) rfl (fun ls hl => ?_)
        refine lv_goto (tgt := 2) hx hb dX10_day_18 (by decide) ?_
        exact ih2 v15 _ _ _ (ms_up hms2 (by have := s15; omega) (iv_w (c := 1) (d := 8) hv15 (by decide)).2) (iv_w hv15 (by decide)) hT hS (lv_sub hl [1, 0] rfl)
  refine lv_istore_n (lv' := [(1, .int (0 : Int32)), (0, .ref a0)]) hx hb dX10_day_1 rfl hl (by decide) rfl (fun ls hl => ?_)
  exact J2 _ (0 : Int32) _ _ _ (Nat.lt_succ_self _) (iv_w (iv_c (x := (0 : Int32)) (k := 0) (by decide)) (by decide)) hT hS (lv_sub hl [1, 0] rfl)
set_option maxHeartbeats 4000000 in
set_option maxRecDepth 100000 in
theorem t_X10_runs (l : Launch) {D : va_G} {c0 : Nat → ClassId} {Y : Nat → Option Nat} {ν : Nat → Nat} {H : Heap} (hT : TI D vwCl (tysOf c0) (RTg ν) Y H) {a0 : Nat} (ha0 : Y a0 = some 10) {x1 : Int32} (hx1 : iv x1 1 30) (hU : uq Y) : Met l yX10_runs (wz yX10_runs cX10_runs 4 (some .int)) { frames := 9, cells := 0, slots := 0, locals := 264 } (TP D vwCl (tysOf c0) H [.ref a0, .int x1]) (TQi (fun x H' => TI D vwCl (tysOf c0) (RTg ν) Y H') Y [10, 29, 30, 43]) 0 0 (pW Y [10, 29, 30, 43]) := by
  refine Met.ofW (cc := cX10_runs) (maxL := 4) (ret := (some .int)) (by decide) rfl ?_
  intro p e s m args below meth c s₁ B hml hv
  obtain ⟨rfl, rfl, hK⟩ := hv
  have hx := B.exec
  have hb := B.bytes
  have hr := B.returns
  have hts : ∀ w ∈ wq, w.before _ s = true := fun w h => atoms_spec (ws := wz yX10_runs cX10_runs 4 (some .int)) B.pre w (List.mem_cons_of_mem _ h)
  have hown : s.vm.findClass RX10 = some m.cls := findClass_of_methodNamed B.named
  have hlocks := B.notSynchronized
  obtain ⟨R, hR⟩ : ∃ R : Room, R = ({ frames := 9, cells := 0, slots := 0, locals := 264 } : Room) := ⟨_, rfl⟩
  rw [show (headSpec (wz yX10_runs cX10_runs 4 (some .int)) { frames := 9, cells := 0, slots := 0, locals := 264 }).room = R from hR.symm]
  refine ti_mi hx hb hr hlocks (fun Q ret => ?_)
  have hl := lv_entry [.ref a0, .int x1] (n := 4) (Nat.le_of_ble_eq_true rfl)
  rw [lg_entry_eq]
  generalize (lg_sl [.ref a0, .int x1] ++ List.replicate (4 - (lg_sl [.ref a0, .int x1]).length) Slot.unset).toArray = ls at hl ⊢
  have hl : lv_has ls 4 [(0, .ref a0), (1, .int x1)] := hl
  refine ti_gen (P := fun H => TI D vwCl (tysOf c0) (RTg ν) Y H) (Y := Y) (ws := [10, 29, 30, 43]) hT (fun H locs hT hS => ?_)
  refine lv_iconst (v := 0) hx hb dX10_runs_0 (by decide) ?_
  refine lv_istore_n (lv' := [(2, .int (0 : Int32)), (0, .ref a0), (1, .int x1)]) hx hb dX10_runs_1 rfl hl (by decide) rfl (fun ls hl => ?_)
  refine lv_aload_n hx hb dX10_runs_2 rfl (lv_at hl 1 rfl) ?_
  refine lv_iconst (v := 0) hx hb dX10_runs_3 (by decide) ?_
  refine ti_put (ty := .int) hx hb hts inlX10 tyX10 tyX10_ok nmX10 hown hK hT hS ha0 rfl rfl rfl rfl 27 (by decide) (hts _ kw_943) (fun _ h9 => h9) rfl rfl (by decide +kernel) rfl rfl ⟨(0 : Int32), rfl, iv_w (iv_c (x := (0 : Int32)) (k := 0) (by decide)) (by decide)⟩ (fun _ _ => trivial) dX10_runs_4 (fun H locs hT hS oq4 he4 hk4 => ?_)
  refine lv_iconst (v := 0) hx hb dX10_runs_7 (by decide) ?_
  have J9 : ∀ (n : Nat) (j9_L2 : Int32) (j9_L3 : Int32) (H : Heap) (locs : List Loc) (ls : Array Slot), (30 - j9_L3.toInt).toNat < n → iv j9_L2 (-2147483648) 2147483647 → iv j9_L3 0 30 → TI D vwCl (tysOf c0) (RTg ν) Y H → va_S (pW Y [10, 29, 30, 43]) s.heap H locs → lv_has ls 4 [(0, .ref a0), (1, .int x1), (2, .int j9_L2), (3, .int j9_L3)] → W p l e R s m ([.ref a0, .int x1] : List Value).toArray below meth c H locs 0 0 Q (F0 m 9 ls []) := by
    intro n
    induction n with
    | zero => intro j9_L2 j9_L3 H locs ls hms; exact absurd hms (Nat.not_lt_zero _)
    | succ n ih9 =>
      intro j9_L2 j9_L3 H locs ls hms9 hj9_L2 hj9_L3 hT hS hl
      refine lv_iload_n hx hb dX10_runs_9 rfl (lv_at hl 3 rfl) ?_
      refine lv_iload_n hx hb dX10_runs_10 rfl (lv_at hl 1 rfl) ?_
      refine lv_icmp_ge (tgt := 27) hx hb dX10_runs_11 (by decide) (fun c11 => ?_) (fun c11 => ?_)
      · skip
        have f11 := i_le c11
        have hj9_L3_11r : iv j9_L3 1 30 := iv_ler hx1 hj9_L3 c11 (by decide)
        refine lv_iload_n hx hb dX10_runs_27 rfl (lv_at hl 2 rfl) ?_
        exact ret _ _ _ _ _ dX10_runs_28 (hT) hS
      · skip
        have f11 := i_nle c11
        have hj9_L3_11l : iv j9_L3 0 29 := iv_ltl hj9_L3 hx1 (Int32.not_le.mp c11) (by decide)
        refine lv_iload_n hx hb dX10_runs_14 rfl (lv_at hl 2 rfl) ?_
        refine lv_aload_n hx hb dX10_runs_15 rfl (lv_at hl 0 rfl) ?_
        refine ti_calli (va_runV (As := []) (rest := [.int j9_L2]) ⟨hx, hb, hml, hown, hts⟩ (t_X10_day l hT ha0 hU) (cwV 0 hts (good_V kw_944 kw_945 kw_946 kw_5 kw_947) rfl rfl rfl (by decide +kernel) ⟨by rw [hR]; decide, by rw [hR]; decide⟩) (ti_preV hK hT ha0 rfl rfl) rfl rfl hl.1 rfl (lv_room (Nat.le_of_ble_eq_true rfl)) dX10_runs_16 ⟨Nat.zero_le _, Nat.zero_le _⟩) hS (pW_sub rfl) (fun v16 H locs hB hS _ hk16 => ?_)
        have hT := hB
        refine lv_iadd hx hb dX10_runs_19 ?_
        refine lv_topi (fun v19 e19 => ?_)
        have hv19 : iv v19 (-2147483648) 2147483647 := iv_top _
        refine lv_istore_n (lv' := [(2, .int v19), (0, .ref a0), (1, .int x1), (3, .int j9_L3)]) hx hb dX10_runs_20 rfl hl (by decide) rfl (fun ls hl => ?_)
        obtain ⟨v21, e21⟩ : ∃ y : Int32, y = j9_L3 + 1 := ⟨_, rfl⟩
        have hv21 : iv v21 1 30 := by rw [e21]; exact iv_w (iv_add hj9_L3_11l (iv_c (x := (1 : Int32)) (k := 1) (by decide)) (by decide)) (by decide)
        have s21 : v21.toInt = j9_L3.toInt + 1 := by rw [e21, iv_addE hj9_L3_11l (iv_c (x := (1 : Int32)) (k := 1) (by decide)) (by decide)]; rfl
        refine lv_iinc (v := v21) (lv' := [(3, .int v21), (2, .int v19), (0, .ref a0), (1, .int x1)]) hx hb dX10_runs_21 hl (k := 3) rfl (by rw [e21]; rfl) (by decide) rfl (fun ls hl => ?_)
        refine lv_goto (tgt := 9) hx hb dX10_runs_24 (by decide) ?_
        exact ih9 v19 v21 _ _ _ (ms_up hms9 (by have := s21; omega) (iv_w (c := 1) (d := 30) hv21 (by decide)).2) (iv_w hv19 (by decide)) (iv_w hv21 (by decide)) hT hS (lv_sub hl [2, 3, 1, 0] rfl)
  refine lv_istore_n (lv' := [(3, .int (0 : Int32)), (2, .int (0 : Int32)), (0, .ref a0), (1, .int x1)]) hx hb dX10_runs_8 rfl hl (by decide) rfl (fun ls hl => ?_)
  exact J9 _ (0 : Int32) (0 : Int32) _ _ _ (Nat.lt_succ_self _) (iv_w (iv_c (x := (0 : Int32)) (k := 0) (by decide)) (by decide)) (iv_w (iv_c (x := (0 : Int32)) (k := 0) (by decide)) (by decide)) hT hS (lv_sub hl [2, 3, 1, 0] rfl)
set_option maxHeartbeats 4000000 in
set_option maxRecDepth 100000 in
theorem t_X10_isRun (l : Launch) {D : va_G} {c0 : Nat → ClassId} {Y : Nat → Option Nat} {ν : Nat → Nat} {H : Heap} (hT : TI D vwCl (tysOf c0) (RTg ν) Y H) {a0 : Nat} (ha0 : Y a0 = some 10) {x1 : Int32} (hx1 : iv x1 (-2147483648) 2147483647) (hU : uq Y) : Met l yX10_isRun (wz yX10_isRun cX10_isRun 2 (some .boolean)) { frames := 1, cells := 0, slots := 0, locals := 25 } (TP D vwCl (tysOf c0) H [.ref a0, .int x1]) (TQi (fun x H' => H' = H ∧ iv x 0 1 ∧ ((x.toInt = 0 ∨ (1 ≤ x1.toInt ∧ x1.toInt ≤ 30)))) Y []) 0 0 (pW Y []) := by
  refine Met.ofW (cc := cX10_isRun) (maxL := 2) (ret := (some .boolean)) (by decide) rfl ?_
  intro p e s m args below meth c s₁ B hml hv
  obtain ⟨rfl, rfl, hK⟩ := hv
  have hx := B.exec
  have hb := B.bytes
  have hr := B.returns
  have hts : ∀ w ∈ wq, w.before _ s = true := fun w h => atoms_spec (ws := wz yX10_isRun cX10_isRun 2 (some .boolean)) B.pre w (List.mem_cons_of_mem _ h)
  have hown : s.vm.findClass RX10 = some m.cls := findClass_of_methodNamed B.named
  have hlocks := B.notSynchronized
  obtain ⟨R, hR⟩ : ∃ R : Room, R = ({ frames := 1, cells := 0, slots := 0, locals := 25 } : Room) := ⟨_, rfl⟩
  rw [show (headSpec (wz yX10_isRun cX10_isRun 2 (some .boolean)) { frames := 1, cells := 0, slots := 0, locals := 25 }).room = R from hR.symm]
  refine ti_mz hx hb hr hlocks (fun Q ret => ?_)
  have hl := lv_entry [.ref a0, .int x1] (n := 2) (Nat.le_of_ble_eq_true rfl)
  rw [lg_entry_eq]
  generalize (lg_sl [.ref a0, .int x1] ++ List.replicate (2 - (lg_sl [.ref a0, .int x1]).length) Slot.unset).toArray = ls at hl ⊢
  have hl : lv_has ls 2 [(0, .ref a0), (1, .int x1)] := hl
  have hS : va_S (pW Y []) s.heap s.heap [] := va_S.rf
  refine lv_aload_n hx hb dX10_isRun_0 rfl (lv_at hl 0 rfl) ?_
  refine ti_calli (va_runV (As := []) (rest := []) ⟨hx, hb, hml, hown, hts⟩ (t_X10_people l hT ha0 hU) (cwV 0 hts (good_V kw_605 kw_606 kw_607 kw_5 kw_608) rfl rfl rfl (by decide +kernel) ⟨by rw [hR]; decide, by rw [hR]; decide⟩) (ti_preV hK hT ha0 rfl rfl) rfl rfl hl.1 rfl (lv_room (Nat.le_of_ble_eq_true rfl)) dX10_isRun_1 ⟨Nat.zero_le _, Nat.zero_le _⟩) hS (pW_sub rfl) (fun v1 H1 locs hB hS _ hk1 => ?_)
  obtain ⟨hH, hv1, hp1⟩ := hB
  rw [hH] at hS ⊢
  refine lv_if_le (tgt := 23) hx hb dX10_isRun_4 (by decide) (fun c4 => ?_) (fun c4 => ?_)
  · skip
    have kl0 : (0 : Int32).toInt = 0 := by decide
    have f4 := i_le c4
    have hv1_4l : iv v1 0 0 := iv_lel hv1 (iv_c (x := (0 : Int32)) (k := 0) (by decide)) c4 (by decide)
    refine lv_iconst (v := 0) hx hb dX10_isRun_23 (by decide) ?_
    exact ret _ _ _ _ _ dX10_isRun_24 (iv_w (iv_c (x := (0 : Int32)) (k := 0) (by decide)) (by decide)) (⟨rfl, iv_w (iv_c (x := (0 : Int32)) (k := 0) (by decide)) (by decide), by have b0a := (hx1).1; have b0b := (hx1).2; have b1a := (hv1_4l).1; have b1b := (hv1_4l).2; omega⟩) hS
  · skip
    have kl0 : (0 : Int32).toInt = 0 := by decide
    have f4 := i_nle c4
    have hv1_4r : iv v1 1 8 := iv_ltr (iv_c (x := (0 : Int32)) (k := 0) (by decide)) hv1 (Int32.not_le.mp c4) (by decide)
    refine lv_iload_n hx hb dX10_isRun_7 rfl (lv_at hl 1 rfl) ?_
    refine lv_i2l hx hb dX10_isRun_8 rfl ?_
    refine lv_topl (fun v8 e8 => ?_)
    have hv8 : jv v8 (-2147483648) 2147483647 := by rw [e8]; exact jv_i hx1
    have t8 : v8.toInt = x1.toInt := by rw [e8]; exact jv_e _
    refine lv_lconst (v := 1) hx hb dX10_isRun_9 (by decide) ?_
    have kj1 : (1 : Int64).toInt = 1 := by decide
    refine lv_ldc2 (v := 30) hx hb hown (hts _ kw_524) dX10_isRun_10 ?_
    have kj30 : (30 : Int64).toInt = 30 := by decide
    refine ti_calli (va_runS (As := [.long v8, .long (1 : Int64), .long (30 : Int64)]) (rest := []) ⟨hx, hb, hml, hown, hts⟩ (t_X10_in l hT (jv_w hv8 (by decide)) (jv_w (jv_c (x := (1 : Int64)) (k := 1) (by decide)) (by decide)) (jv_w (jv_c (x := (30 : Int64)) (k := 30) (by decide)) (by decide))) (cwS 3 hts (good_S kw_181 kw_182 kw_5 kw_183) rfl rfl rfl (by decide +kernel) ⟨by rw [hR]; decide, by rw [hR]; decide⟩) (ti_preS hK) rfl rfl hl.1 rfl (lv_room (Nat.le_of_ble_eq_true rfl)) dX10_isRun_13 ⟨Nat.zero_le _, Nat.zero_le _⟩) hS (pW_sub rfl) (fun v13 H1 locs hB hS _ hk13 => ?_)
    obtain ⟨hH, hv13, hp13⟩ := hB
    rw [hH] at hS ⊢
    refine lv_if_eq (tgt := 23) hx hb dX10_isRun_16 (by decide) (fun c16 => ?_) (fun c16 => ?_)
    · skip
      have f16 := i_eq c16
      have hv13_16l : iv v13 0 0 := iv_eql hv13 (iv_c (x := (0 : Int32)) (k := 0) (by decide)) c16 (by decide)
      refine lv_iconst (v := 0) hx hb dX10_isRun_23 (by decide) ?_
      exact ret _ _ _ _ _ dX10_isRun_24 (iv_w (iv_c (x := (0 : Int32)) (k := 0) (by decide)) (by decide)) (⟨rfl, iv_w (iv_c (x := (0 : Int32)) (k := 0) (by decide)) (by decide), by have b0a := (hx1).1; have b0b := (hx1).2; have b1a := (hv1_4r).1; have b1b := (hv1_4r).2; have b2a := (hv8).1; have b2b := (hv8).2; have b3a := (hv13_16l).1; have b3b := (hv13_16l).2; omega⟩) hS
    · skip
      have f16 := i_ne c16
      have hv13_16l : iv v13 1 1 := iv_nel hv13 (iv_c (x := (0 : Int32)) (k := 0) (by decide)) c16 (by decide)
      have hv8_16p : jv v8 1 30 := by have b0a := (hv8).1; have b0b := (hv8).2; have b1a := ((jv_c (x := (1 : Int64)) (k := 1) (by decide))).1; have b1b := ((jv_c (x := (1 : Int64)) (k := 1) (by decide))).2; have b2a := ((jv_c (x := (30 : Int64)) (k := 30) (by decide))).1; have b2b := ((jv_c (x := (30 : Int64)) (k := 30) (by decide))).2; exact ⟨by omega, by omega⟩
      have hx1_16p : iv x1 1 30 := by have := t8; have b0a := (hv8_16p).1; have b0b := (hv8_16p).2; have b1a := (hx1).1; have b1b := (hx1).2; exact ⟨by omega, by omega⟩
      refine lv_iconst (v := 1) hx hb dX10_isRun_19 (by decide) ?_
      refine lv_goto (tgt := 24) hx hb dX10_isRun_20 (by decide) ?_
      have kl1 : (1 : Int32).toInt = 1 := by decide
      exact ret _ _ _ _ _ dX10_isRun_24 (iv_w (iv_c (x := (1 : Int32)) (k := 1) (by decide)) (by decide)) (⟨rfl, iv_w (iv_c (x := (1 : Int32)) (k := 1) (by decide)) (by decide), by have b0a := (hx1_16p).1; have b0b := (hx1_16p).2; have b1a := (hv1_4r).1; have b1b := (hv1_4r).2; have b2a := (hv8_16p).1; have b2b := (hv8_16p).2; have b3a := (hv13_16l).1; have b3b := (hv13_16l).2; omega⟩) hS
set_option maxHeartbeats 4000000 in
set_option maxRecDepth 100000 in
theorem t_X10_run (l : Launch) {D : va_G} {c0 : Nat → ClassId} {Y : Nat → Option Nat} {ν : Nat → Nat} {H : Heap} (hT : TI D vwCl (tysOf c0) (RTg ν) Y H) {a0 : Nat} (ha0 : Y a0 = some 10) {x1 : Int32} (hx1 : iv x1 (-2147483648) 2147483647) (hU : uq Y) : Met l yX10_run (wz yX10_run cX10_run 2 (some .int)) { frames := 10, cells := 0, slots := 0, locals := 287 } (TP D vwCl (tysOf c0) H [.ref a0, .int x1]) (TQi (fun x H' => TI D vwCl (tysOf c0) (RTg ν) Y H') Y [10, 29, 30, 43]) 0 0 (pW Y [10, 29, 30, 43]) := by
  refine Met.ofW (cc := cX10_run) (maxL := 2) (ret := (some .int)) (by decide) rfl ?_
  intro p e s m args below meth c s₁ B hml hv
  obtain ⟨rfl, rfl, hK⟩ := hv
  have hx := B.exec
  have hb := B.bytes
  have hr := B.returns
  have hts : ∀ w ∈ wq, w.before _ s = true := fun w h => atoms_spec (ws := wz yX10_run cX10_run 2 (some .int)) B.pre w (List.mem_cons_of_mem _ h)
  have hown : s.vm.findClass RX10 = some m.cls := findClass_of_methodNamed B.named
  have hlocks := B.notSynchronized
  obtain ⟨R, hR⟩ : ∃ R : Room, R = ({ frames := 10, cells := 0, slots := 0, locals := 287 } : Room) := ⟨_, rfl⟩
  rw [show (headSpec (wz yX10_run cX10_run 2 (some .int)) { frames := 10, cells := 0, slots := 0, locals := 287 }).room = R from hR.symm]
  refine ti_mi hx hb hr hlocks (fun Q ret => ?_)
  have hl := lv_entry [.ref a0, .int x1] (n := 2) (Nat.le_of_ble_eq_true rfl)
  rw [lg_entry_eq]
  generalize (lg_sl [.ref a0, .int x1] ++ List.replicate (2 - (lg_sl [.ref a0, .int x1]).length) Slot.unset).toArray = ls at hl ⊢
  have hl : lv_has ls 2 [(0, .ref a0), (1, .int x1)] := hl
  refine ti_gen (P := fun H => TI D vwCl (tysOf c0) (RTg ν) Y H) (Y := Y) (ws := [10, 29, 30, 43]) hT (fun H locs hT hS => ?_)
  refine lv_aload_n hx hb dX10_run_0 rfl (lv_at hl 0 rfl) ?_
  refine lv_iload_n hx hb dX10_run_1 rfl (lv_at hl 1 rfl) ?_
  refine ti_calli (va_runV (As := [.int x1]) (rest := []) ⟨hx, hb, hml, hown, hts⟩ (t_X10_isRun l hT ha0 (iv_w hx1 (by decide)) hU) (cwV 1 hts (good_V kw_935 kw_936 kw_937 kw_5 kw_938) rfl rfl rfl (by decide +kernel) ⟨by rw [hR]; decide, by rw [hR]; decide⟩) (ti_preV hK hT ha0 rfl rfl) rfl rfl hl.1 rfl (lv_room (Nat.le_of_ble_eq_true rfl)) dX10_run_2 ⟨Nat.zero_le _, Nat.zero_le _⟩) hS (pW_sub rfl) (fun v2 H1 locs hB hS _ hk2 => ?_)
  obtain ⟨hH, hv2, hp2⟩ := hB
  rw [hH] at hS ⊢
  refine lv_if_eq (tgt := 16) hx hb dX10_run_5 (by decide) (fun c5 => ?_) (fun c5 => ?_)
  · skip
    have kl0 : (0 : Int32).toInt = 0 := by decide
    have f5 := i_eq c5
    have hv2_5l : iv v2 0 0 := iv_eql hv2 (iv_c (x := (0 : Int32)) (k := 0) (by decide)) c5 (by decide)
    refine lv_bipush (v := (-2)) hx hb dX10_run_16 (by decide) ?_
    exact ret _ _ _ _ _ dX10_run_18 (hT) hS
  · skip
    have kl0 : (0 : Int32).toInt = 0 := by decide
    have f5 := i_ne c5
    have hv2_5l : iv v2 1 1 := iv_nel hv2 (iv_c (x := (0 : Int32)) (k := 0) (by decide)) c5 (by decide)
    have hx1_5p : iv x1 1 30 := by have b0a := (hx1).1; have b0b := (hx1).2; exact ⟨by omega, by omega⟩
    refine lv_aload_n hx hb dX10_run_8 rfl (lv_at hl 0 rfl) ?_
    refine lv_iload_n hx hb dX10_run_9 rfl (lv_at hl 1 rfl) ?_
    refine ti_calli (va_runV (As := [.int x1]) (rest := []) ⟨hx, hb, hml, hown, hts⟩ (t_X10_runs l hT ha0 (iv_w hx1_5p (by decide)) hU) (cwV 1 hts (good_V kw_939 kw_940 kw_941 kw_5 kw_942) rfl rfl rfl (by decide +kernel) ⟨by rw [hR]; decide, by rw [hR]; decide⟩) (ti_preV hK hT ha0 rfl rfl) rfl rfl hl.1 rfl (lv_room (Nat.le_of_ble_eq_true rfl)) dX10_run_10 ⟨Nat.zero_le _, Nat.zero_le _⟩) hS (pW_sub rfl) (fun v10 H locs hB hS _ hk10 => ?_)
    have hT := hB
    refine lv_goto (tgt := 18) hx hb dX10_run_13 (by decide) ?_
    exact ret _ _ _ _ _ dX10_run_18 (hT) hS
set_option maxHeartbeats 4000000 in
set_option maxRecDepth 100000 in
theorem t_X10_takesWay (l : Launch) {D : va_G} {c0 : Nat → ClassId} {Y : Nat → Option Nat} {ν : Nat → Nat} {H : Heap} (hT : TI D vwCl (tysOf c0) (RTg ν) Y H) {a0 : Nat} (ha0 : Y a0 = some 10) {x1 : Int32} (hx1 : iv x1 0 7) {x2 : Int32} (hx2 : iv x2 0 5) (hU : uq Y) : Met l yX10_takesWay (wz yX10_takesWay cX10_takesWay 3 none) { frames := 1, cells := 0, slots := 0, locals := 23 } (TP D vwCl (tysOf c0) H [.ref a0, .int x1, .int x2]) (TQv (fun H' => TI D vwCl (tysOf c0) (RTg ν) Y H') Y [30]) 0 0 (pW Y [30]) := by
  refine Met.ofW (cc := cX10_takesWay) (maxL := 3) (ret := none) (by decide) rfl ?_
  intro p e s m args below meth c s₁ B hml hv
  obtain ⟨rfl, rfl, hK⟩ := hv
  have hx := B.exec
  have hb := B.bytes
  have hr := B.returns
  have hts : ∀ w ∈ wq, w.before _ s = true := fun w h => atoms_spec (ws := wz yX10_takesWay cX10_takesWay 3 none) B.pre w (List.mem_cons_of_mem _ h)
  have hown : s.vm.findClass RX10 = some m.cls := findClass_of_methodNamed B.named
  have hlocks := B.notSynchronized
  obtain ⟨R, hR⟩ : ∃ R : Room, R = ({ frames := 1, cells := 0, slots := 0, locals := 23 } : Room) := ⟨_, rfl⟩
  rw [show (headSpec (wz yX10_takesWay cX10_takesWay 3 none) { frames := 1, cells := 0, slots := 0, locals := 23 }).room = R from hR.symm]
  refine ti_mv hx hb hr hlocks (fun Q ret => ?_)
  have hl := lv_entry [.ref a0, .int x1, .int x2] (n := 3) (Nat.le_of_ble_eq_true rfl)
  rw [lg_entry_eq]
  generalize (lg_sl [.ref a0, .int x1, .int x2] ++ List.replicate (3 - (lg_sl [.ref a0, .int x1, .int x2]).length) Slot.unset).toArray = ls at hl ⊢
  have hl : lv_has ls 3 [(0, .ref a0), (1, .int x1), (2, .int x2)] := hl
  refine ti_gen (P := fun H => TI D vwCl (tysOf c0) (RTg ν) Y H) (Y := Y) (ws := [30]) hT (fun H locs hT hS => ?_)
  refine lv_aload_n hx hb dX10_takesWay_0 rfl (lv_at hl 0 rfl) ?_
  refine lv_iload_n hx hb dX10_takesWay_1 rfl (lv_at hl 1 rfl) ?_
  refine lv_iconst (v := 2) hx hb dX10_takesWay_2 (by decide) ?_
  refine ti_calli (va_runV (As := [.int x1, .int (2 : Int32)]) (rest := []) ⟨hx, hb, hml, hown, hts⟩ (t_X10_of l hT ha0 (iv_w hx1 (by decide)) (iv_w (iv_c (x := (2 : Int32)) (k := 2) (by decide)) (by decide)) hU) (cwV 2 hts (good_V kw_490 kw_491 kw_492 kw_5 kw_493) rfl rfl rfl (by decide +kernel) ⟨by rw [hR]; decide, by rw [hR]; decide⟩) (ti_preV hK hT ha0 rfl rfl) rfl rfl hl.1 rfl (lv_room (Nat.le_of_ble_eq_true rfl)) dX10_takesWay_3 ⟨Nat.zero_le _, Nat.zero_le _⟩) hS (pW_sub rfl) (fun v3 H1 locs hB hS _ hk3 => ?_)
  obtain ⟨hH, hp3⟩ := hB
  rw [hH] at hS ⊢
  have kl2 : (2 : Int32).toInt = 2 := by decide
  refine lv_iload_n hx hb dX10_takesWay_6 rfl (lv_at hl 2 rfl) ?_
  have J26 : ∀  (H : Heap) (locs : List Loc) (ls : Array Slot), TI D vwCl (tysOf c0) (RTg ν) Y H → va_S (pW Y [30]) s.heap H locs → lv_has ls 3 [(0, .ref a0), (1, .int x1), (2, .int x2)] → W p l e R s m ([.ref a0, .int x1, .int x2] : List Value).toArray below meth c H locs 0 0 Q (F0 m 26 ls []) := by
    intro  H locs ls  hT hS hl
    refine lv_aload_n hx hb dX10_takesWay_26 rfl (lv_at hl 0 rfl) ?_
    refine lv_iload_n hx hb dX10_takesWay_27 rfl (lv_at hl 1 rfl) ?_
    refine lv_iconst (v := 2) hx hb dX10_takesWay_28 (by decide) ?_
    refine lv_iload_n hx hb dX10_takesWay_29 rfl (lv_at hl 2 rfl) ?_
    refine ti_callv (va_runV (As := [.int x1, .int (2 : Int32), .int x2]) (rest := []) ⟨hx, hb, hml, hown, hts⟩ (t_X10_set l hT ha0 (iv_w hx1 (by decide)) (iv_w (iv_c (x := (2 : Int32)) (k := 2) (by decide)) (by decide)) (iv_w hx2 (by decide)) (fun h9 => by have b0a := (hx1).1; have b0b := (hx1).2; have b1a := (hx2).1; have b1b := (hx2).2; omega) hU) (cwV 3 hts (good_V kw_511 kw_512 kw_513 kw_5 kw_514) rfl rfl rfl (by decide +kernel) ⟨by rw [hR]; decide, by rw [hR]; decide⟩) (ti_preV hK hT ha0 rfl rfl) rfl rfl hl.1 rfl (lv_room (Nat.le_of_ble_eq_true rfl)) dX10_takesWay_30 ⟨Nat.zero_le _, Nat.zero_le _⟩) hS (pW_sub rfl) (fun H locs hB hS _ hk30 => ?_)
    obtain ⟨hT, hp30⟩ := hB
    exact ret _ _ _ _ dX10_takesWay_33 (hT) hS
  refine lv_icmp_eq (tgt := 26) hx hb dX10_takesWay_7 (by decide) (fun c7 => ?_) (fun c7 => ?_)
  · skip
    have f7 := i_eq c7
    have hv3_7l : iv v3 0 5 := iv_eql (iv_top v3) hx2 c7 (by decide)
    exact J26  _ _ _   hT hS (lv_sub hl [0, 1, 2] rfl)
  · skip
    have f7 := i_ne c7
    refine lv_aload_n hx hb dX10_takesWay_10 rfl (lv_at hl 0 rfl) ?_
    refine lv_iload_n hx hb dX10_takesWay_11 rfl (lv_at hl 1 rfl) ?_
    refine lv_iconst (v := 3) hx hb dX10_takesWay_12 (by decide) ?_
    refine lv_iload_n hx hb dX10_takesWay_13 rfl (lv_at hl 2 rfl) ?_
    refine lv_iconst (v := 3) hx hb dX10_takesWay_14 (by decide) ?_
    have J23 : ∀ (j23_S3 : Int32) (H : Heap) (locs : List Loc) (ls : Array Slot), iv j23_S3 0 3 → TI D vwCl (tysOf c0) (RTg ν) Y H → va_S (pW Y [30]) s.heap H locs → lv_has ls 3 [(0, .ref a0), (1, .int x1), (2, .int x2)] → W p l e R s m ([.ref a0, .int x1, .int x2] : List Value).toArray below meth c H locs 0 0 Q (F0 m 23 ls [.int j23_S3, .int (3 : Int32), .int x1, .ref a0]) := by
      intro j23_S3 H locs ls hj23_S3 hT hS hl
      refine ti_callv (va_runV (As := [.int x1, .int (3 : Int32), .int j23_S3]) (rest := []) ⟨hx, hb, hml, hown, hts⟩ (t_X10_set l hT ha0 (iv_w hx1 (by decide)) (iv_w (iv_c (x := (3 : Int32)) (k := 3) (by decide)) (by decide)) (iv_w hj23_S3 (by decide)) (fun h9 => by have b0a := (hx1).1; have b0b := (hx1).2; have b1a := (hj23_S3).1; have b1b := (hj23_S3).2; omega) hU) (cwV 3 hts (good_V kw_511 kw_512 kw_513 kw_5 kw_514) rfl rfl rfl (by decide +kernel) ⟨by rw [hR]; decide, by rw [hR]; decide⟩) (ti_preV hK hT ha0 rfl rfl) rfl rfl hl.1 rfl (lv_room (Nat.le_of_ble_eq_true rfl)) dX10_takesWay_23 ⟨Nat.zero_le _, Nat.zero_le _⟩) hS (pW_sub rfl) (fun H locs hB hS _ hk23 => ?_)
      obtain ⟨hT, hp23⟩ := hB
      exact J26  _ _ _   hT hS (lv_sub hl [0, 1, 2] rfl)
    refine lv_icmp_ne (tgt := 22) hx hb dX10_takesWay_15 (by decide) (fun c15 => ?_) (fun c15 => ?_)
    · skip
      have kl3 : (3 : Int32).toInt = 3 := by decide
      have f15 := i_ne c15
      refine lv_iconst (v := 0) hx hb dX10_takesWay_22 (by decide) ?_
      exact J23 (0 : Int32) _ _ _  (iv_w (iv_c (x := (0 : Int32)) (k := 0) (by decide)) (by decide)) hT hS (lv_sub hl [0, 1, 2] rfl)
    · skip
      have kl3 : (3 : Int32).toInt = 3 := by decide
      have f15 := i_eq c15
      have hx2_15l : iv x2 3 3 := iv_eql hx2 (iv_c (x := (3 : Int32)) (k := 3) (by decide)) c15 (by decide)
      refine lv_iconst (v := 3) hx hb dX10_takesWay_18 (by decide) ?_
      refine lv_goto (tgt := 23) hx hb dX10_takesWay_19 (by decide) ?_
      exact J23 (3 : Int32) _ _ _  (iv_w (iv_c (x := (3 : Int32)) (k := 3) (by decide)) (by decide)) hT hS (lv_sub hl [0, 1, 2] rfl)
set_option maxHeartbeats 4000000 in
set_option maxRecDepth 100000 in
theorem t_X10_isWay (l : Launch) {D : va_G} {c0 : Nat → ClassId} {Y : Nat → Option Nat} {ν : Nat → Nat} {H : Heap} (hT : TI D vwCl (tysOf c0) (RTg ν) Y H) {a0 : Nat} (ha0 : Y a0 = some 10) {x1 : Int32} (hx1 : iv x1 (-2147483648) 2147483647) {x2 : Int32} (hx2 : iv x2 (-2147483648) 2147483647) (hU : uq Y) : Met l yX10_isWay (wz yX10_isWay cX10_isWay 3 (some .boolean)) { frames := 2, cells := 0, slots := 0, locals := 46 } (TP D vwCl (tysOf c0) H [.ref a0, .int x1, .int x2]) (TQi (fun x H' => H' = H ∧ iv x 0 1 ∧ ((x.toInt = 0 ∨ (0 ≤ x1.toInt ∧ x1.toInt ≤ 7) ∧ (0 ≤ x2.toInt ∧ x2.toInt ≤ 5)))) Y []) 0 0 (pW Y []) := by
  refine Met.ofW (cc := cX10_isWay) (maxL := 3) (ret := (some .boolean)) (by decide) rfl ?_
  intro p e s m args below meth c s₁ B hml hv
  obtain ⟨rfl, rfl, hK⟩ := hv
  have hx := B.exec
  have hb := B.bytes
  have hr := B.returns
  have hts : ∀ w ∈ wq, w.before _ s = true := fun w h => atoms_spec (ws := wz yX10_isWay cX10_isWay 3 (some .boolean)) B.pre w (List.mem_cons_of_mem _ h)
  have hown : s.vm.findClass RX10 = some m.cls := findClass_of_methodNamed B.named
  have hlocks := B.notSynchronized
  obtain ⟨R, hR⟩ : ∃ R : Room, R = ({ frames := 2, cells := 0, slots := 0, locals := 46 } : Room) := ⟨_, rfl⟩
  rw [show (headSpec (wz yX10_isWay cX10_isWay 3 (some .boolean)) { frames := 2, cells := 0, slots := 0, locals := 46 }).room = R from hR.symm]
  refine ti_mz hx hb hr hlocks (fun Q ret => ?_)
  have hl := lv_entry [.ref a0, .int x1, .int x2] (n := 3) (Nat.le_of_ble_eq_true rfl)
  rw [lg_entry_eq]
  generalize (lg_sl [.ref a0, .int x1, .int x2] ++ List.replicate (3 - (lg_sl [.ref a0, .int x1, .int x2]).length) Slot.unset).toArray = ls at hl ⊢
  have hl : lv_has ls 3 [(0, .ref a0), (1, .int x1), (2, .int x2)] := hl
  have hS : va_S (pW Y []) s.heap s.heap [] := va_S.rf
  refine lv_aload_n hx hb dX10_isWay_0 rfl (lv_at hl 0 rfl) ?_
  refine lv_iload_n hx hb dX10_isWay_1 rfl (lv_at hl 1 rfl) ?_
  refine ti_calli (va_runV (As := [.int x1]) (rest := []) ⟨hx, hb, hml, hown, hts⟩ (t_X10_isPerson l hT ha0 (iv_w hx1 (by decide)) hU) (cwV 1 hts (good_V kw_486 kw_487 kw_488 kw_5 kw_489) rfl rfl rfl (by decide +kernel) ⟨by rw [hR]; decide, by rw [hR]; decide⟩) (ti_preV hK hT ha0 rfl rfl) rfl rfl hl.1 rfl (lv_room (Nat.le_of_ble_eq_true rfl)) dX10_isWay_2 ⟨Nat.zero_le _, Nat.zero_le _⟩) hS (pW_sub rfl) (fun v2 H1 locs hB hS _ hk2 => ?_)
  obtain ⟨hH, hv2, hp2⟩ := hB
  rw [hH] at hS ⊢
  refine lv_if_eq (tgt := 24) hx hb dX10_isWay_5 (by decide) (fun c5 => ?_) (fun c5 => ?_)
  · skip
    have kl0 : (0 : Int32).toInt = 0 := by decide
    have f5 := i_eq c5
    have hv2_5l : iv v2 0 0 := iv_eql hv2 (iv_c (x := (0 : Int32)) (k := 0) (by decide)) c5 (by decide)
    refine lv_iconst (v := 0) hx hb dX10_isWay_24 (by decide) ?_
    exact ret _ _ _ _ _ dX10_isWay_25 (iv_w (iv_c (x := (0 : Int32)) (k := 0) (by decide)) (by decide)) (⟨rfl, iv_w (iv_c (x := (0 : Int32)) (k := 0) (by decide)) (by decide), by have b0a := (hx1).1; have b0b := (hx1).2; have b1a := (hx2).1; have b1b := (hx2).2; have b2a := (hv2_5l).1; have b2b := (hv2_5l).2; omega⟩) hS
  · skip
    have kl0 : (0 : Int32).toInt = 0 := by decide
    have f5 := i_ne c5
    have hv2_5l : iv v2 1 1 := iv_nel hv2 (iv_c (x := (0 : Int32)) (k := 0) (by decide)) c5 (by decide)
    have hx1_5p : iv x1 0 7 := by have b0a := (hx1).1; have b0b := (hx1).2; exact ⟨by omega, by omega⟩
    refine lv_iload_n hx hb dX10_isWay_8 rfl (lv_at hl 2 rfl) ?_
    refine lv_i2l hx hb dX10_isWay_9 rfl ?_
    refine lv_topl (fun v9 e9 => ?_)
    have hv9 : jv v9 (-2147483648) 2147483647 := by rw [e9]; exact jv_i hx2
    have t9 : v9.toInt = x2.toInt := by rw [e9]; exact jv_e _
    refine lv_lconst (v := 0) hx hb dX10_isWay_10 (by decide) ?_
    have kj0 : (0 : Int64).toInt = 0 := by decide
    refine lv_ldc2 (v := 5) hx hb hown (hts _ kw_1136) dX10_isWay_11 ?_
    have kj5 : (5 : Int64).toInt = 5 := by decide
    refine ti_calli (va_runS (As := [.long v9, .long (0 : Int64), .long (5 : Int64)]) (rest := []) ⟨hx, hb, hml, hown, hts⟩ (t_X10_in l hT (jv_w hv9 (by decide)) (jv_w (jv_c (x := (0 : Int64)) (k := 0) (by decide)) (by decide)) (jv_w (jv_c (x := (5 : Int64)) (k := 5) (by decide)) (by decide))) (cwS 3 hts (good_S kw_181 kw_182 kw_5 kw_183) rfl rfl rfl (by decide +kernel) ⟨by rw [hR]; decide, by rw [hR]; decide⟩) (ti_preS hK) rfl rfl hl.1 rfl (lv_room (Nat.le_of_ble_eq_true rfl)) dX10_isWay_14 ⟨Nat.zero_le _, Nat.zero_le _⟩) hS (pW_sub rfl) (fun v14 H1 locs hB hS _ hk14 => ?_)
    obtain ⟨hH, hv14, hp14⟩ := hB
    rw [hH] at hS ⊢
    refine lv_if_eq (tgt := 24) hx hb dX10_isWay_17 (by decide) (fun c17 => ?_) (fun c17 => ?_)
    · skip
      have f17 := i_eq c17
      have hv14_17l : iv v14 0 0 := iv_eql hv14 (iv_c (x := (0 : Int32)) (k := 0) (by decide)) c17 (by decide)
      refine lv_iconst (v := 0) hx hb dX10_isWay_24 (by decide) ?_
      exact ret _ _ _ _ _ dX10_isWay_25 (iv_w (iv_c (x := (0 : Int32)) (k := 0) (by decide)) (by decide)) (⟨rfl, iv_w (iv_c (x := (0 : Int32)) (k := 0) (by decide)) (by decide), by have b0a := (hx1_5p).1; have b0b := (hx1_5p).2; have b1a := (hx2).1; have b1b := (hx2).2; have b2a := (hv2_5l).1; have b2b := (hv2_5l).2; have b3a := (hv9).1; have b3b := (hv9).2; have b4a := (hv14_17l).1; have b4b := (hv14_17l).2; omega⟩) hS
    · skip
      have f17 := i_ne c17
      have hv14_17l : iv v14 1 1 := iv_nel hv14 (iv_c (x := (0 : Int32)) (k := 0) (by decide)) c17 (by decide)
      have hv9_17p : jv v9 0 5 := by have b0a := (hv9).1; have b0b := (hv9).2; have b1a := ((jv_c (x := (0 : Int64)) (k := 0) (by decide))).1; have b1b := ((jv_c (x := (0 : Int64)) (k := 0) (by decide))).2; have b2a := ((jv_c (x := (5 : Int64)) (k := 5) (by decide))).1; have b2b := ((jv_c (x := (5 : Int64)) (k := 5) (by decide))).2; exact ⟨by omega, by omega⟩
      have hx2_17p : iv x2 0 5 := by have := t9; have b0a := (hv9_17p).1; have b0b := (hv9_17p).2; have b1a := (hx2).1; have b1b := (hx2).2; exact ⟨by omega, by omega⟩
      refine lv_iconst (v := 1) hx hb dX10_isWay_20 (by decide) ?_
      refine lv_goto (tgt := 25) hx hb dX10_isWay_21 (by decide) ?_
      have kl1 : (1 : Int32).toInt = 1 := by decide
      exact ret _ _ _ _ _ dX10_isWay_25 (iv_w (iv_c (x := (1 : Int32)) (k := 1) (by decide)) (by decide)) (⟨rfl, iv_w (iv_c (x := (1 : Int32)) (k := 1) (by decide)) (by decide), by have b0a := (hx1_5p).1; have b0b := (hx1_5p).2; have b1a := (hx2_17p).1; have b1b := (hx2_17p).2; have b2a := (hv2_5l).1; have b2b := (hv2_5l).2; have b3a := (hv9_17p).1; have b3b := (hv9_17p).2; have b4a := (hv14_17l).1; have b4b := (hv14_17l).2; omega⟩) hS
set_option maxHeartbeats 4000000 in
set_option maxRecDepth 100000 in
theorem t_X10_totalOf (l : Launch) {D : va_G} {c0 : Nat → ClassId} {Y : Nat → Option Nat} {ν : Nat → Nat} {H : Heap} (hT : TI D vwCl (tysOf c0) (RTg ν) Y H) {a0 : Nat} (ha0 : Y a0 = some 10) {x1 : Int32} (hx1 : iv x1 0 7) {x2 : Int32} (hx2 : iv x2 0 5) {x3 : Int32} (hx3 : iv x3 1 30) (hν3 : ν 3 = 0) (hν5 : ν 5 = 0) (hU : uq Y) : Met l yX10_totalOf (wz yX10_totalOf cX10_totalOf 6 (some .int)) { frames := 10, cells := 0, slots := 0, locals := 287 } (TP D vwCl (tysOf c0) H [.ref a0, .int x1, .int x2, .int x3]) (TQi (fun x H' => TI D vwCl (tysOf c0) (RTg ν) Y H') Y [10, 29, 30, 41, 42, 43]) 0 0 (pW Y [10, 29, 30, 41, 42, 43]) := by
  refine Met.ofW (cc := cX10_totalOf) (maxL := 6) (ret := (some .int)) (by decide) rfl ?_
  intro p e s m args below meth c s₁ B hml hv
  obtain ⟨rfl, rfl, hK⟩ := hv
  have hx := B.exec
  have hb := B.bytes
  have hr := B.returns
  have hts : ∀ w ∈ wq, w.before _ s = true := fun w h => atoms_spec (ws := wz yX10_totalOf cX10_totalOf 6 (some .int)) B.pre w (List.mem_cons_of_mem _ h)
  have hown : s.vm.findClass RX10 = some m.cls := findClass_of_methodNamed B.named
  have hlocks := B.notSynchronized
  obtain ⟨R, hR⟩ : ∃ R : Room, R = ({ frames := 10, cells := 0, slots := 0, locals := 287 } : Room) := ⟨_, rfl⟩
  rw [show (headSpec (wz yX10_totalOf cX10_totalOf 6 (some .int)) { frames := 10, cells := 0, slots := 0, locals := 287 }).room = R from hR.symm]
  refine ti_mi hx hb hr hlocks (fun Q ret => ?_)
  have hl := lv_entry [.ref a0, .int x1, .int x2, .int x3] (n := 6) (Nat.le_of_ble_eq_true rfl)
  rw [lg_entry_eq]
  generalize (lg_sl [.ref a0, .int x1, .int x2, .int x3] ++ List.replicate (6 - (lg_sl [.ref a0, .int x1, .int x2, .int x3]).length) Slot.unset).toArray = ls at hl ⊢
  have hl : lv_has ls 6 [(0, .ref a0), (1, .int x1), (2, .int x2), (3, .int x3)] := hl
  refine ti_gen (P := fun H => TI D vwCl (tysOf c0) (RTg ν) Y H) (Y := Y) (ws := [10, 29, 30, 41, 42, 43]) hT (fun H locs hT hS => ?_)
  refine lv_aload_n hx hb dX10_totalOf_0 rfl (lv_at hl 0 rfl) ?_
  refine lv_iload_n hx hb dX10_totalOf_1 rfl (lv_at hl 1 rfl) ?_
  refine lv_iconst (v := 4) hx hb dX10_totalOf_2 (by decide) ?_
  refine ti_calli (va_runV (As := [.int x1, .int (4 : Int32)]) (rest := []) ⟨hx, hb, hml, hown, hts⟩ (t_X10_of l hT ha0 (iv_w hx1 (by decide)) (iv_w (iv_c (x := (4 : Int32)) (k := 4) (by decide)) (by decide)) hU) (cwV 2 hts (good_V kw_490 kw_491 kw_492 kw_5 kw_493) rfl rfl rfl (by decide +kernel) ⟨by rw [hR]; decide, by rw [hR]; decide⟩) (ti_preV hK hT ha0 rfl rfl) rfl rfl hl.1 rfl (lv_room (Nat.le_of_ble_eq_true rfl)) dX10_totalOf_3 ⟨Nat.zero_le _, Nat.zero_le _⟩) hS (pW_sub rfl) (fun v3 H1 locs hB hS _ hk3 => ?_)
  obtain ⟨hH, hp3⟩ := hB
  rw [hH] at hS ⊢
  have kl4 : (4 : Int32).toInt = 4 := by decide
  refine lv_istore (lv' := [(4, .int v3), (0, .ref a0), (1, .int x1), (2, .int x2), (3, .int x3)]) hx hb dX10_totalOf_6 hl (by decide) rfl (fun ls hl => ?_)
  refine lv_aload_n hx hb dX10_totalOf_8 rfl (lv_at hl 1 rfl) ?_
  refine ti_callv (va_runV (As := []) (rest := []) ⟨hx, hb, hml, hown, hts⟩ (t_X10_thinks l hT ha0 hν3 hν5 hU) (cwV 0 hts (good_V kw_819 kw_820 kw_821 kw_5 kw_822) rfl rfl rfl (by decide +kernel) ⟨by rw [hR]; decide, by rw [hR]; decide⟩) (ti_preV hK hT ha0 rfl rfl) rfl rfl hl.1 rfl (lv_room (Nat.le_of_ble_eq_true rfl)) dX10_totalOf_9 ⟨Nat.zero_le _, Nat.zero_le _⟩) hS (pW_sub rfl) (fun H locs hB hS _ hk9 => ?_)
  have hT := hB
  refine lv_aload_n hx hb dX10_totalOf_12 rfl (lv_at hl 1 rfl) ?_
  refine lv_iload_n hx hb dX10_totalOf_13 rfl (lv_at hl 2 rfl) ?_
  refine lv_iload_n hx hb dX10_totalOf_14 rfl (lv_at hl 3 rfl) ?_
  refine ti_callv (va_runV (As := [.int x1, .int x2]) (rest := []) ⟨hx, hb, hml, hown, hts⟩ (t_X10_takesWay l hT ha0 (iv_w hx1 (by decide)) (iv_w hx2 (by decide)) hU) (cwV 2 hts (good_V kw_1141 kw_1142 kw_1143 kw_5 kw_1144) rfl rfl rfl (by decide +kernel) ⟨by rw [hR]; decide, by rw [hR]; decide⟩) (ti_preV hK hT ha0 rfl rfl) rfl rfl hl.1 rfl (lv_room (Nat.le_of_ble_eq_true rfl)) dX10_totalOf_15 ⟨Nat.zero_le _, Nat.zero_le _⟩) hS (pW_sub rfl) (fun H locs hB hS _ hk15 => ?_)
  have hT := hB
  refine lv_aload_n hx hb dX10_totalOf_18 rfl (lv_at hl 1 rfl) ?_
  refine lv_iload_n hx hb dX10_totalOf_19 rfl (lv_at hl 4 rfl) ?_
  refine ti_calli (va_runV (As := [.int x3]) (rest := []) ⟨hx, hb, hml, hown, hts⟩ (t_X10_runs l hT ha0 (iv_w hx3 (by decide)) hU) (cwV 1 hts (good_V kw_939 kw_940 kw_941 kw_5 kw_942) rfl rfl rfl (by decide +kernel) ⟨by rw [hR]; decide, by rw [hR]; decide⟩) (ti_preV hK hT ha0 rfl rfl) rfl rfl hl.1 rfl (lv_room (Nat.le_of_ble_eq_true rfl)) dX10_totalOf_20 ⟨Nat.zero_le _, Nat.zero_le _⟩) hS (pW_sub rfl) (fun v20 H locs hB hS _ hk20 => ?_)
  have hT := hB
  refine lv_pop hx hb dX10_totalOf_23 rfl ?_
  refine lv_aload_n hx hb dX10_totalOf_24 rfl (lv_at hl 1 rfl) ?_
  refine lv_iload_n hx hb dX10_totalOf_25 rfl (lv_at hl 2 rfl) ?_
  refine lv_iconst (v := 4) hx hb dX10_totalOf_26 (by decide) ?_
  refine ti_calli (va_runV (As := [.int x1, .int (4 : Int32)]) (rest := []) ⟨hx, hb, hml, hown, hts⟩ (t_X10_of l hT ha0 (iv_w hx1 (by decide)) (iv_w (iv_c (x := (4 : Int32)) (k := 4) (by decide)) (by decide)) hU) (cwV 2 hts (good_V kw_490 kw_491 kw_492 kw_5 kw_493) rfl rfl rfl (by decide +kernel) ⟨by rw [hR]; decide, by rw [hR]; decide⟩) (ti_preV hK hT ha0 rfl rfl) rfl rfl hl.1 rfl (lv_room (Nat.le_of_ble_eq_true rfl)) dX10_totalOf_27 ⟨Nat.zero_le _, Nat.zero_le _⟩) hS (pW_sub rfl) (fun v27 H1 locs hB hS _ hk27 => ?_)
  obtain ⟨hH, hp27⟩ := hB
  rw [hH] at hS ⊢
  refine lv_istore (lv' := [(5, .int v27), (4, .int v3), (0, .ref a0), (1, .int x1), (2, .int x2), (3, .int x3)]) hx hb dX10_totalOf_30 hl (by decide) rfl (fun ls hl => ?_)
  refine lv_aload_n hx hb dX10_totalOf_32 rfl (lv_at hl 2 rfl) ?_
  refine ti_callv (va_runV (As := []) (rest := []) ⟨hx, hb, hml, hown, hts⟩ (t_X10_wakes l hT ha0 rfl rfl hU) (cwV 0 hts (good_V kw_824 kw_825 kw_826 kw_5 kw_827) rfl rfl rfl (by decide +kernel) ⟨by rw [hR]; decide, by rw [hR]; decide⟩) (ti_preV hK hT ha0 rfl rfl) rfl rfl hl.1 rfl (lv_room (Nat.le_of_ble_eq_true rfl)) dX10_totalOf_33 ⟨Nat.zero_le _, Nat.zero_le _⟩) hS (pW_sub rfl) (fun H locs hB hS _ hk33 => ?_)
  have hT := hB
  rw [nu_back hν3 hν5] at hT
  refine lv_iload hx hb dX10_totalOf_36 (lv_at hl 0 rfl) ?_
  refine lv_iload hx hb dX10_totalOf_38 (lv_at hl 1 rfl) ?_
  refine lv_isub hx hb dX10_totalOf_40 ?_
  refine lv_topi (fun v40 e40 => ?_)
  have hv40 : iv v40 (-2147483648) 2147483647 := iv_top _
  exact ret _ _ _ _ _ dX10_totalOf_41 (hT) hS
set_option maxHeartbeats 4000000 in
set_option maxRecDepth 100000 in
theorem t_X10_total (l : Launch) {D : va_G} {c0 : Nat → ClassId} {Y : Nat → Option Nat} {ν : Nat → Nat} {H : Heap} (hT : TI D vwCl (tysOf c0) (RTg ν) Y H) {a0 : Nat} (ha0 : Y a0 = some 10) {x1 : Int32} (hx1 : iv x1 (-2147483648) 2147483647) {x2 : Int32} (hx2 : iv x2 (-2147483648) 2147483647) {x3 : Int32} (hx3 : iv x3 (-2147483648) 2147483647) (hν3 : ν 3 = 0) (hν5 : ν 5 = 0) (hU : uq Y) : Met l yX10_total (wz yX10_total cX10_total 4 (some .int)) { frames := 11, cells := 0, slots := 0, locals := 312 } (TP D vwCl (tysOf c0) H [.ref a0, .int x1, .int x2, .int x3]) (TQi (fun x H' => TI D vwCl (tysOf c0) (RTg ν) Y H') Y [10, 29, 30, 41, 42, 43]) 0 0 (pW Y [10, 29, 30, 41, 42, 43]) := by
  refine Met.ofW (cc := cX10_total) (maxL := 4) (ret := (some .int)) (by decide) rfl ?_
  intro p e s m args below meth c s₁ B hml hv
  obtain ⟨rfl, rfl, hK⟩ := hv
  have hx := B.exec
  have hb := B.bytes
  have hr := B.returns
  have hts : ∀ w ∈ wq, w.before _ s = true := fun w h => atoms_spec (ws := wz yX10_total cX10_total 4 (some .int)) B.pre w (List.mem_cons_of_mem _ h)
  have hown : s.vm.findClass RX10 = some m.cls := findClass_of_methodNamed B.named
  have hlocks := B.notSynchronized
  obtain ⟨R, hR⟩ : ∃ R : Room, R = ({ frames := 11, cells := 0, slots := 0, locals := 312 } : Room) := ⟨_, rfl⟩
  rw [show (headSpec (wz yX10_total cX10_total 4 (some .int)) { frames := 11, cells := 0, slots := 0, locals := 312 }).room = R from hR.symm]
  refine ti_mi hx hb hr hlocks (fun Q ret => ?_)
  have hl := lv_entry [.ref a0, .int x1, .int x2, .int x3] (n := 4) (Nat.le_of_ble_eq_true rfl)
  rw [lg_entry_eq]
  generalize (lg_sl [.ref a0, .int x1, .int x2, .int x3] ++ List.replicate (4 - (lg_sl [.ref a0, .int x1, .int x2, .int x3]).length) Slot.unset).toArray = ls at hl ⊢
  have hl : lv_has ls 4 [(0, .ref a0), (1, .int x1), (2, .int x2), (3, .int x3)] := hl
  refine ti_gen (P := fun H => TI D vwCl (tysOf c0) (RTg ν) Y H) (Y := Y) (ws := [10, 29, 30, 41, 42, 43]) hT (fun H locs hT hS => ?_)
  refine lv_aload_n hx hb dX10_total_0 rfl (lv_at hl 0 rfl) ?_
  refine lv_iload_n hx hb dX10_total_1 rfl (lv_at hl 1 rfl) ?_
  refine lv_iload_n hx hb dX10_total_2 rfl (lv_at hl 2 rfl) ?_
  refine ti_calli (va_runV (As := [.int x1, .int x2]) (rest := []) ⟨hx, hb, hml, hown, hts⟩ (t_X10_isWay l hT ha0 (iv_w hx1 (by decide)) (iv_w hx2 (by decide)) hU) (cwV 2 hts (good_V kw_1132 kw_1133 kw_1134 kw_5 kw_1135) rfl rfl rfl (by decide +kernel) ⟨by rw [hR]; decide, by rw [hR]; decide⟩) (ti_preV hK hT ha0 rfl rfl) rfl rfl hl.1 rfl (lv_room (Nat.le_of_ble_eq_true rfl)) dX10_total_3 ⟨Nat.zero_le _, Nat.zero_le _⟩) hS (pW_sub rfl) (fun v3 H1 locs hB hS _ hk3 => ?_)
  obtain ⟨hH, hv3, hp3⟩ := hB
  rw [hH] at hS ⊢
  have J31 : ∀  (H : Heap) (locs : List Loc) (ls : Array Slot), TI D vwCl (tysOf c0) (RTg ν) Y H → va_S (pW Y [10, 29, 30, 41, 42, 43]) s.heap H locs → lv_has ls 4 [(0, .ref a0), (1, .int x1), (2, .int x2), (3, .int x3)] → W p l e R s m ([.ref a0, .int x1, .int x2, .int x3] : List Value).toArray below meth c H locs 0 0 Q (F0 m 31 ls []) := by
    intro  H locs ls  hT hS hl
    refine lv_ldcw (v := (-2000000000)) hx hb hown (hts _ kw_960) dX10_total_31 ?_
    exact ret _ _ _ _ _ dX10_total_34 (hT) hS
  refine lv_if_eq (tgt := 31) hx hb dX10_total_6 (by decide) (fun c6 => ?_) (fun c6 => ?_)
  · skip
    have kl0 : (0 : Int32).toInt = 0 := by decide
    have f6 := i_eq c6
    have hv3_6l : iv v3 0 0 := iv_eql hv3 (iv_c (x := (0 : Int32)) (k := 0) (by decide)) c6 (by decide)
    exact J31  _ _ _   hT hS (lv_sub hl [0, 1, 2, 3] rfl)
  · skip
    have kl0 : (0 : Int32).toInt = 0 := by decide
    have f6 := i_ne c6
    have hv3_6l : iv v3 1 1 := iv_nel hv3 (iv_c (x := (0 : Int32)) (k := 0) (by decide)) c6 (by decide)
    have hx1_6p : iv x1 0 7 := by have b0a := (hx1).1; have b0b := (hx1).2; exact ⟨by omega, by omega⟩
    have hx2_6p : iv x2 0 5 := by have b0a := (hx2).1; have b0b := (hx2).2; exact ⟨by omega, by omega⟩
    refine lv_iload_n hx hb dX10_total_9 rfl (lv_at hl 3 rfl) ?_
    refine lv_i2l hx hb dX10_total_10 rfl ?_
    refine lv_topl (fun v10 e10 => ?_)
    have hv10 : jv v10 (-2147483648) 2147483647 := by rw [e10]; exact jv_i hx3
    have t10 : v10.toInt = x3.toInt := by rw [e10]; exact jv_e _
    refine lv_lconst (v := 1) hx hb dX10_total_11 (by decide) ?_
    have kj1 : (1 : Int64).toInt = 1 := by decide
    refine lv_ldc2 (v := 30) hx hb hown (hts _ kw_524) dX10_total_12 ?_
    have kj30 : (30 : Int64).toInt = 30 := by decide
    refine ti_calli (va_runS (As := [.long v10, .long (1 : Int64), .long (30 : Int64)]) (rest := []) ⟨hx, hb, hml, hown, hts⟩ (t_X10_in l hT (jv_w hv10 (by decide)) (jv_w (jv_c (x := (1 : Int64)) (k := 1) (by decide)) (by decide)) (jv_w (jv_c (x := (30 : Int64)) (k := 30) (by decide)) (by decide))) (cwS 3 hts (good_S kw_181 kw_182 kw_5 kw_183) rfl rfl rfl (by decide +kernel) ⟨by rw [hR]; decide, by rw [hR]; decide⟩) (ti_preS hK) rfl rfl hl.1 rfl (lv_room (Nat.le_of_ble_eq_true rfl)) dX10_total_15 ⟨Nat.zero_le _, Nat.zero_le _⟩) hS (pW_sub rfl) (fun v15 H1 locs hB hS _ hk15 => ?_)
    obtain ⟨hH, hv15, hp15⟩ := hB
    rw [hH] at hS ⊢
    refine lv_if_eq (tgt := 31) hx hb dX10_total_18 (by decide) (fun c18 => ?_) (fun c18 => ?_)
    · skip
      have f18 := i_eq c18
      have hv15_18l : iv v15 0 0 := iv_eql hv15 (iv_c (x := (0 : Int32)) (k := 0) (by decide)) c18 (by decide)
      exact J31  _ _ _   hT hS (lv_sub hl [0, 1, 2, 3] rfl)
    · skip
      have f18 := i_ne c18
      have hv15_18l : iv v15 1 1 := iv_nel hv15 (iv_c (x := (0 : Int32)) (k := 0) (by decide)) c18 (by decide)
      have hv10_18p : jv v10 1 30 := by have b0a := (hv10).1; have b0b := (hv10).2; have b1a := ((jv_c (x := (1 : Int64)) (k := 1) (by decide))).1; have b1b := ((jv_c (x := (1 : Int64)) (k := 1) (by decide))).2; have b2a := ((jv_c (x := (30 : Int64)) (k := 30) (by decide))).1; have b2b := ((jv_c (x := (30 : Int64)) (k := 30) (by decide))).2; exact ⟨by omega, by omega⟩
      have hx3_18p : iv x3 1 30 := by have := t10; have b0a := (hv10_18p).1; have b0b := (hv10_18p).2; have b1a := (hx3).1; have b1b := (hx3).2; exact ⟨by omega, by omega⟩
      refine lv_aload_n hx hb dX10_total_21 rfl (lv_at hl 0 rfl) ?_
      refine lv_iload_n hx hb dX10_total_22 rfl (lv_at hl 1 rfl) ?_
      refine lv_iload_n hx hb dX10_total_23 rfl (lv_at hl 2 rfl) ?_
      refine lv_iload_n hx hb dX10_total_24 rfl (lv_at hl 3 rfl) ?_
      refine ti_calli (va_runV (As := [.int x1, .int x2, .int x3]) (rest := []) ⟨hx, hb, hml, hown, hts⟩ (t_X10_totalOf l hT ha0 (iv_w hx1_6p (by decide)) (iv_w hx2_6p (by decide)) (iv_w hx3_18p (by decide)) hν3 hν5 hU) (cwV 3 hts (good_V kw_1137 kw_1138 kw_1139 kw_5 kw_1140) rfl rfl rfl (by decide +kernel) ⟨by rw [hR]; decide, by rw [hR]; decide⟩) (ti_preV hK hT ha0 rfl rfl) rfl rfl hl.1 rfl (lv_room (Nat.le_of_ble_eq_true rfl)) dX10_total_25 ⟨Nat.zero_le _, Nat.zero_le _⟩) hS (pW_sub rfl) (fun v25 H locs hB hS _ hk25 => ?_)
      have hT := hB
      refine lv_goto (tgt := 34) hx hb dX10_total_28 (by decide) ?_
      exact ret _ _ _ _ _ dX10_total_34 (hT) hS
set_option maxHeartbeats 4000000 in
set_option maxRecDepth 100000 in
theorem t_X10_way (l : Launch) {D : va_G} {c0 : Nat → ClassId} {Y : Nat → Option Nat} {ν : Nat → Nat} {H : Heap} (hT : TI D vwCl (tysOf c0) (RTg ν) Y H) {a0 : Nat} (ha0 : Y a0 = some 10) {x1 : Int32} (hx1 : iv x1 (-2147483648) 2147483647) {x2 : Int32} (hx2 : iv x2 (-2147483648) 2147483647) (hν3 : ν 3 = 0) (hν5 : ν 5 = 0) (hU : uq Y) : Met l yX10_way (wz yX10_way cX10_way 7 (some .int)) { frames := 11, cells := 0, slots := 0, locals := 312 } (TP D vwCl (tysOf c0) H [.ref a0, .int x1, .int x2]) (TQi (fun x H' => TI D vwCl (tysOf c0) (RTg ν) Y H' ∧ iv x (-2) 5) Y [10, 29, 30, 41, 42, 43]) 0 0 (pW Y [10, 29, 30, 41, 42, 43]) := by
  refine Met.ofW (cc := cX10_way) (maxL := 7) (ret := (some .int)) (by decide) rfl ?_
  intro p e s m args below meth c s₁ B hml hv
  obtain ⟨rfl, rfl, hK⟩ := hv
  have hx := B.exec
  have hb := B.bytes
  have hr := B.returns
  have hts : ∀ w ∈ wq, w.before _ s = true := fun w h => atoms_spec (ws := wz yX10_way cX10_way 7 (some .int)) B.pre w (List.mem_cons_of_mem _ h)
  have hown : s.vm.findClass RX10 = some m.cls := findClass_of_methodNamed B.named
  have hlocks := B.notSynchronized
  obtain ⟨R, hR⟩ : ∃ R : Room, R = ({ frames := 11, cells := 0, slots := 0, locals := 312 } : Room) := ⟨_, rfl⟩
  rw [show (headSpec (wz yX10_way cX10_way 7 (some .int)) { frames := 11, cells := 0, slots := 0, locals := 312 }).room = R from hR.symm]
  refine ti_mi hx hb hr hlocks (fun Q ret => ?_)
  have hl := lv_entry [.ref a0, .int x1, .int x2] (n := 7) (Nat.le_of_ble_eq_true rfl)
  rw [lg_entry_eq]
  generalize (lg_sl [.ref a0, .int x1, .int x2] ++ List.replicate (7 - (lg_sl [.ref a0, .int x1, .int x2]).length) Slot.unset).toArray = ls at hl ⊢
  have hl : lv_has ls 7 [(0, .ref a0), (1, .int x1), (2, .int x2)] := hl
  refine ti_gen (P := fun H => TI D vwCl (tysOf c0) (RTg ν) Y H) (Y := Y) (ws := [10, 29, 30, 41, 42, 43]) hT (fun H locs hT hS => ?_)
  refine lv_aload_n hx hb dX10_way_0 rfl (lv_at hl 0 rfl) ?_
  refine lv_iload_n hx hb dX10_way_1 rfl (lv_at hl 1 rfl) ?_
  refine ti_calli (va_runV (As := [.int x1]) (rest := []) ⟨hx, hb, hml, hown, hts⟩ (t_X10_isPerson l hT ha0 (iv_w hx1 (by decide)) hU) (cwV 1 hts (good_V kw_486 kw_487 kw_488 kw_5 kw_489) rfl rfl rfl (by decide +kernel) ⟨by rw [hR]; decide, by rw [hR]; decide⟩) (ti_preV hK hT ha0 rfl rfl) rfl rfl hl.1 rfl (lv_room (Nat.le_of_ble_eq_true rfl)) dX10_way_2 ⟨Nat.zero_le _, Nat.zero_le _⟩) hS (pW_sub rfl) (fun v2 H1 locs hB hS _ hk2 => ?_)
  obtain ⟨hH, hv2, hp2⟩ := hB
  rw [hH] at hS ⊢
  refine lv_if_eq (tgt := 20) hx hb dX10_way_5 (by decide) (fun c5 => ?_) (fun c5 => ?_)
  · skip
    have kl0 : (0 : Int32).toInt = 0 := by decide
    have f5 := i_eq c5
    have hv2_5l : iv v2 0 0 := iv_eql hv2 (iv_c (x := (0 : Int32)) (k := 0) (by decide)) c5 (by decide)
    refine lv_bipush (v := (-2)) hx hb dX10_way_20 (by decide) ?_
    exact ret _ _ _ _ _ dX10_way_22 (⟨hT, iv_w (iv_c (x := (-2 : Int32)) (k := (-2)) (by decide)) (by decide)⟩) hS
  · skip
    have kl0 : (0 : Int32).toInt = 0 := by decide
    have f5 := i_ne c5
    have hv2_5l : iv v2 1 1 := iv_nel hv2 (iv_c (x := (0 : Int32)) (k := 0) (by decide)) c5 (by decide)
    have hx1_5p : iv x1 0 7 := by have b0a := (hx1).1; have b0b := (hx1).2; exact ⟨by omega, by omega⟩
    refine lv_iload_n hx hb dX10_way_8 rfl (lv_at hl 2 rfl) ?_
    refine lv_i2l hx hb dX10_way_9 rfl ?_
    refine lv_topl (fun v9 e9 => ?_)
    have hv9 : jv v9 (-2147483648) 2147483647 := by rw [e9]; exact jv_i hx2
    have t9 : v9.toInt = x2.toInt := by rw [e9]; exact jv_e _
    refine lv_lconst (v := 1) hx hb dX10_way_10 (by decide) ?_
    have kj1 : (1 : Int64).toInt = 1 := by decide
    refine lv_ldc2 (v := 30) hx hb hown (hts _ kw_524) dX10_way_11 ?_
    have kj30 : (30 : Int64).toInt = 30 := by decide
    refine ti_calli (va_runS (As := [.long v9, .long (1 : Int64), .long (30 : Int64)]) (rest := []) ⟨hx, hb, hml, hown, hts⟩ (t_X10_in l hT (jv_w hv9 (by decide)) (jv_w (jv_c (x := (1 : Int64)) (k := 1) (by decide)) (by decide)) (jv_w (jv_c (x := (30 : Int64)) (k := 30) (by decide)) (by decide))) (cwS 3 hts (good_S kw_181 kw_182 kw_5 kw_183) rfl rfl rfl (by decide +kernel) ⟨by rw [hR]; decide, by rw [hR]; decide⟩) (ti_preS hK) rfl rfl hl.1 rfl (lv_room (Nat.le_of_ble_eq_true rfl)) dX10_way_14 ⟨Nat.zero_le _, Nat.zero_le _⟩) hS (pW_sub rfl) (fun v14 H1 locs hB hS _ hk14 => ?_)
    obtain ⟨hH, hv14, hp14⟩ := hB
    rw [hH] at hS ⊢
    refine lv_if_ne (tgt := 23) hx hb dX10_way_17 (by decide) (fun c17 => ?_) (fun c17 => ?_)
    · skip
      have f17 := i_ne c17
      have hv14_17l : iv v14 1 1 := iv_nel hv14 (iv_c (x := (0 : Int32)) (k := 0) (by decide)) c17 (by decide)
      have hv9_17p : jv v9 1 30 := by have b0a := (hv9).1; have b0b := (hv9).2; have b1a := ((jv_c (x := (1 : Int64)) (k := 1) (by decide))).1; have b1b := ((jv_c (x := (1 : Int64)) (k := 1) (by decide))).2; have b2a := ((jv_c (x := (30 : Int64)) (k := 30) (by decide))).1; have b2b := ((jv_c (x := (30 : Int64)) (k := 30) (by decide))).2; exact ⟨by omega, by omega⟩
      have hx2_17p : iv x2 1 30 := by have := t9; have b0a := (hv9_17p).1; have b0b := (hv9_17p).2; have b1a := (hx2).1; have b1b := (hx2).2; exact ⟨by omega, by omega⟩
      refine lv_iconst (v := 0) hx hb dX10_way_23 (by decide) ?_
      refine lv_istore_n (lv' := [(3, .int (0 : Int32)), (0, .ref a0), (1, .int x1), (2, .int x2)]) hx hb dX10_way_24 rfl hl (by decide) rfl (fun ls hl => ?_)
      refine lv_aload_n hx hb dX10_way_25 rfl (lv_at hl 1 rfl) ?_
      refine lv_iload_n hx hb dX10_way_26 rfl (lv_at hl 2 rfl) ?_
      refine lv_iconst (v := 0) hx hb dX10_way_27 (by decide) ?_
      refine lv_iload_n hx hb dX10_way_28 rfl (lv_at hl 3 rfl) ?_
      refine ti_calli (va_runV (As := [.int x1, .int (0 : Int32), .int x2]) (rest := []) ⟨hx, hb, hml, hown, hts⟩ (t_X10_totalOf l hT ha0 (iv_w hx1_5p (by decide)) (iv_w (iv_c (x := (0 : Int32)) (k := 0) (by decide)) (by decide)) (iv_w hx2_17p (by decide)) hν3 hν5 hU) (cwV 3 hts (good_V kw_1137 kw_1138 kw_1139 kw_5 kw_1140) rfl rfl rfl (by decide +kernel) ⟨by rw [hR]; decide, by rw [hR]; decide⟩) (ti_preV hK hT ha0 rfl rfl) rfl rfl hl.1 rfl (lv_room (Nat.le_of_ble_eq_true rfl)) dX10_way_29 ⟨Nat.zero_le _, Nat.zero_le _⟩) hS (pW_sub rfl) (fun v29 H locs hB hS _ hk29 => ?_)
      have hT := hB
      refine lv_istore (lv' := [(4, .int v29), (3, .int (0 : Int32)), (0, .ref a0), (1, .int x1), (2, .int x2)]) hx hb dX10_way_32 hl (by decide) rfl (fun ls hl => ?_)
      refine lv_iconst (v := 1) hx hb dX10_way_34 (by decide) ?_
      have J37 : ∀ (n : Nat) (j37_L3 : Int32) (j37_L4 : Int32) (j37_L5 : Int32) (H : Heap) (locs : List Loc) (ls : Array Slot), (6 - j37_L5.toInt).toNat < n → iv j37_L3 0 5 → iv j37_L4 (-2147483648) 2147483647 → iv j37_L5 1 6 → TI D vwCl (tysOf c0) (RTg ν) Y H → va_S (pW Y [10, 29, 30, 41, 42, 43]) s.heap H locs → lv_has ls 7 [(0, .ref a0), (1, .int x1), (2, .int x2), (3, .int j37_L3), (4, .int j37_L4), (5, .int j37_L5)] → W p l e R s m ([.ref a0, .int x1, .int x2] : List Value).toArray below meth c H locs 0 0 Q (F0 m 37 ls []) := by
        intro n
        induction n with
        | zero => intro j37_L3 j37_L4 j37_L5 H locs ls hms; exact absurd hms (Nat.not_lt_zero _)
        | succ n ih37 =>
          intro j37_L3 j37_L4 j37_L5 H locs ls hms37 hj37_L3 hj37_L4 hj37_L5 hT hS hl
          refine lv_iload hx hb dX10_way_37 (lv_at hl 5 rfl) ?_
          refine lv_iconst (v := 5) hx hb dX10_way_39 (by decide) ?_
          refine lv_icmp_gt (tgt := 76) hx hb dX10_way_40 (by decide) (fun c40 => ?_) (fun c40 => ?_)
          · skip
            have kl5 : (5 : Int32).toInt = 5 := by decide
            have f40 := i_lt c40
            have hj37_L5_40r : iv j37_L5 6 6 := iv_ltr (iv_c (x := (5 : Int32)) (k := 5) (by decide)) hj37_L5 c40 (by decide)
            refine lv_iload_n hx hb dX10_way_76 rfl (lv_at hl 3 rfl) ?_
            exact ret _ _ _ _ _ dX10_way_77 (⟨hT, iv_w hj37_L3 (by decide)⟩) hS
          · skip
            have kl5 : (5 : Int32).toInt = 5 := by decide
            have f40 := i_nlt c40
            have hj37_L5_40l : iv j37_L5 1 5 := iv_lel hj37_L5 (iv_c (x := (5 : Int32)) (k := 5) (by decide)) (Int32.not_lt.mp c40) (by decide)
            refine lv_aload_n hx hb dX10_way_43 rfl (lv_at hl 0 rfl) ?_
            refine lv_iload_n hx hb dX10_way_44 rfl (lv_at hl 1 rfl) ?_
            refine lv_iload hx hb dX10_way_45 (lv_at hl 5 rfl) ?_
            refine lv_iload_n hx hb dX10_way_47 rfl (lv_at hl 2 rfl) ?_
            refine ti_calli (va_runV (As := [.int x1, .int j37_L5, .int x2]) (rest := []) ⟨hx, hb, hml, hown, hts⟩ (t_X10_totalOf l hT ha0 (iv_w hx1_5p (by decide)) (iv_w hj37_L5_40l (by decide)) (iv_w hx2_17p (by decide)) hν3 hν5 hU) (cwV 3 hts (good_V kw_1137 kw_1138 kw_1139 kw_5 kw_1140) rfl rfl rfl (by decide +kernel) ⟨by rw [hR]; decide, by rw [hR]; decide⟩) (ti_preV hK hT ha0 rfl rfl) rfl rfl hl.1 rfl (lv_room (Nat.le_of_ble_eq_true rfl)) dX10_way_48 ⟨Nat.zero_le _, Nat.zero_le _⟩) hS (pW_sub rfl) (fun v48 H locs hB hS _ hk48 => ?_)
            have hT := hB
            refine lv_istore (lv' := [(6, .int v48), (0, .ref a0), (1, .int x1), (2, .int x2), (3, .int j37_L3), (4, .int j37_L4), (5, .int j37_L5)]) hx hb dX10_way_51 hl (by decide) rfl (fun ls hl => ?_)
            refine lv_iload hx hb dX10_way_53 (lv_at hl 0 rfl) ?_
            refine lv_iload hx hb dX10_way_55 (lv_at hl 5 rfl) ?_
            have J70 : ∀ (j70_L3 : Int32) (j70_L4 : Int32) (H : Heap) (locs : List Loc) (ls : Array Slot), iv j70_L3 0 5 → iv j70_L4 (-2147483648) 2147483647 → TI D vwCl (tysOf c0) (RTg ν) Y H → va_S (pW Y [10, 29, 30, 41, 42, 43]) s.heap H locs → lv_has ls 7 [(0, .ref a0), (1, .int x1), (2, .int x2), (3, .int j70_L3), (4, .int j70_L4), (5, .int j37_L5), (6, .int v48)] → W p l e R s m ([.ref a0, .int x1, .int x2] : List Value).toArray below meth c H locs 0 0 Q (F0 m 70 ls []) := by
              intro j70_L3 j70_L4 H locs ls hj70_L3 hj70_L4 hT hS hl
              obtain ⟨v70, e70⟩ : ∃ y : Int32, y = j37_L5 + 1 := ⟨_, rfl⟩
              have hv70 : iv v70 2 6 := by rw [e70]; exact iv_w (iv_add hj37_L5_40l (iv_c (x := (1 : Int32)) (k := 1) (by decide)) (by decide)) (by decide)
              have s70 : v70.toInt = j37_L5.toInt + 1 := by rw [e70, iv_addE hj37_L5_40l (iv_c (x := (1 : Int32)) (k := 1) (by decide)) (by decide)]; rfl
              refine lv_iinc (v := v70) (lv' := [(5, .int v70), (0, .ref a0), (1, .int x1), (2, .int x2), (3, .int j70_L3), (4, .int j70_L4), (6, .int v48)]) hx hb dX10_way_70 hl (k := 5) rfl (by rw [e70]; rfl) (by decide) rfl (fun ls hl => ?_)
              refine lv_goto (tgt := 37) hx hb dX10_way_73 (by decide) ?_
              exact ih37 j70_L3 j70_L4 v70 _ _ _ (ms_up hms37 (by have := s70; omega) (iv_w (c := 2) (d := 6) hv70 (by decide)).2) (iv_w hj70_L3 (by decide)) (iv_w hj70_L4 (by decide)) (iv_w hv70 (by decide)) hT hS (lv_sub hl [1, 2, 3, 4, 5, 0] rfl)
            refine lv_icmp_gt (tgt := 63) hx hb dX10_way_57 (by decide) (fun c57 => ?_) (fun c57 => ?_)
            · skip
              have f57 := i_lt c57
              have hj37_L4_57l : iv j37_L4 (-2147483648) 2147483646 := iv_ltl hj37_L4 (iv_top v48) c57 (by decide)
              have hv48_57r : iv v48 (-2147483647) 2147483647 := iv_ltr hj37_L4_57l (iv_top v48) c57 (by decide)
              refine lv_iload hx hb dX10_way_63 (lv_at hl 6 rfl) ?_
              refine lv_istore_n (lv' := [(3, .int j37_L5), (6, .int v48), (0, .ref a0), (1, .int x1), (2, .int x2), (4, .int j37_L4), (5, .int j37_L5)]) hx hb dX10_way_65 rfl hl (by decide) rfl (fun ls hl => ?_)
              refine lv_iload hx hb dX10_way_66 (lv_at hl 1 rfl) ?_
              refine lv_istore (lv' := [(4, .int v48), (3, .int j37_L5), (6, .int v48), (0, .ref a0), (1, .int x1), (2, .int x2), (5, .int j37_L5)]) hx hb dX10_way_68 hl (by decide) rfl (fun ls hl => ?_)
              exact J70 j37_L5 v48 _ _ _  (iv_w hj37_L5_40l (by decide)) (iv_w hv48_57r (by decide)) hT hS (lv_sub hl [3, 4, 5, 1, 0, 6, 2] rfl)
            · skip
              have f57 := i_nlt c57
              refine lv_goto (tgt := 70) hx hb dX10_way_60 (by decide) ?_
              exact J70 j37_L3 j37_L4 _ _ _  (iv_w hj37_L3 (by decide)) (iv_w hj37_L4 (by decide)) hT hS (lv_sub hl [1, 2, 3, 4, 5, 6, 0] rfl)
      refine lv_istore (lv' := [(5, .int (1 : Int32)), (4, .int v29), (3, .int (0 : Int32)), (0, .ref a0), (1, .int x1), (2, .int x2)]) hx hb dX10_way_35 hl (by decide) rfl (fun ls hl => ?_)
      exact J37 _ (0 : Int32) v29 (1 : Int32) _ _ _ (Nat.lt_succ_self _) (iv_w (iv_c (x := (0 : Int32)) (k := 0) (by decide)) (by decide)) (iv_w (iv_top v29) (by decide)) (iv_w (iv_c (x := (1 : Int32)) (k := 1) (by decide)) (by decide)) hT hS (lv_sub hl [3, 4, 5, 2, 1, 0] rfl)
    · skip
      have f17 := i_eq c17
      have hv14_17l : iv v14 0 0 := iv_eql hv14 (iv_c (x := (0 : Int32)) (k := 0) (by decide)) c17 (by decide)
      refine lv_bipush (v := (-2)) hx hb dX10_way_20 (by decide) ?_
      exact ret _ _ _ _ _ dX10_way_22 (⟨hT, iv_w (iv_c (x := (-2 : Int32)) (k := (-2)) (by decide)) (by decide)⟩) hS
set_option maxHeartbeats 4000000 in
set_option maxRecDepth 100000 in
theorem t_X10_turnsTo (l : Launch) {D : va_G} {c0 : Nat → ClassId} {Y : Nat → Option Nat} {ν : Nat → Nat} {H : Heap} (hT : TI D vwCl (tysOf c0) (RTg ν) Y H) {a0 : Nat} (ha0 : Y a0 = some 10) {x1 : Int32} (hx1 : iv x1 (-2147483648) 2147483647) {x2 : Int32} (hx2 : iv x2 (-2147483648) 2147483647) (hU : uq Y) : Met l yX10_turnsTo (wz yX10_turnsTo cX10_turnsTo 4 (some .int)) { frames := 3, cells := 0, slots := 0, locals := 68 } (TP D vwCl (tysOf c0) H [.ref a0, .int x1, .int x2]) (TQi (fun x H' => TI D vwCl (tysOf c0) (RTg ν) Y H') Y [30]) 0 0 (pW Y [30]) := by
  refine Met.ofW (cc := cX10_turnsTo) (maxL := 4) (ret := (some .int)) (by decide) rfl ?_
  intro p e s m args below meth c s₁ B hml hv
  obtain ⟨rfl, rfl, hK⟩ := hv
  have hx := B.exec
  have hb := B.bytes
  have hr := B.returns
  have hts : ∀ w ∈ wq, w.before _ s = true := fun w h => atoms_spec (ws := wz yX10_turnsTo cX10_turnsTo 4 (some .int)) B.pre w (List.mem_cons_of_mem _ h)
  have hown : s.vm.findClass RX10 = some m.cls := findClass_of_methodNamed B.named
  have hlocks := B.notSynchronized
  obtain ⟨R, hR⟩ : ∃ R : Room, R = ({ frames := 3, cells := 0, slots := 0, locals := 68 } : Room) := ⟨_, rfl⟩
  rw [show (headSpec (wz yX10_turnsTo cX10_turnsTo 4 (some .int)) { frames := 3, cells := 0, slots := 0, locals := 68 }).room = R from hR.symm]
  refine ti_mi hx hb hr hlocks (fun Q ret => ?_)
  have hl := lv_entry [.ref a0, .int x1, .int x2] (n := 4) (Nat.le_of_ble_eq_true rfl)
  rw [lg_entry_eq]
  generalize (lg_sl [.ref a0, .int x1, .int x2] ++ List.replicate (4 - (lg_sl [.ref a0, .int x1, .int x2]).length) Slot.unset).toArray = ls at hl ⊢
  have hl : lv_has ls 4 [(0, .ref a0), (1, .int x1), (2, .int x2)] := hl
  refine ti_gen (P := fun H => TI D vwCl (tysOf c0) (RTg ν) Y H) (Y := Y) (ws := [30]) hT (fun H locs hT hS => ?_)
  refine lv_aload_n hx hb dX10_turnsTo_0 rfl (lv_at hl 0 rfl) ?_
  refine lv_iload_n hx hb dX10_turnsTo_1 rfl (lv_at hl 1 rfl) ?_
  refine lv_iload_n hx hb dX10_turnsTo_2 rfl (lv_at hl 2 rfl) ?_
  refine ti_calli (va_runV (As := [.int x1, .int x2]) (rest := []) ⟨hx, hb, hml, hown, hts⟩ (t_X10_isWay l hT ha0 (iv_w hx1 (by decide)) (iv_w hx2 (by decide)) hU) (cwV 2 hts (good_V kw_1132 kw_1133 kw_1134 kw_5 kw_1135) rfl rfl rfl (by decide +kernel) ⟨by rw [hR]; decide, by rw [hR]; decide⟩) (ti_preV hK hT ha0 rfl rfl) rfl rfl hl.1 rfl (lv_room (Nat.le_of_ble_eq_true rfl)) dX10_turnsTo_3 ⟨Nat.zero_le _, Nat.zero_le _⟩) hS (pW_sub rfl) (fun v3 H1 locs hB hS _ hk3 => ?_)
  obtain ⟨hH, hv3, hp3⟩ := hB
  rw [hH] at hS ⊢
  refine lv_if_ne (tgt := 12) hx hb dX10_turnsTo_6 (by decide) (fun c6 => ?_) (fun c6 => ?_)
  · skip
    have kl0 : (0 : Int32).toInt = 0 := by decide
    have f6 := i_ne c6
    have hv3_6l : iv v3 1 1 := iv_nel hv3 (iv_c (x := (0 : Int32)) (k := 0) (by decide)) c6 (by decide)
    have hx1_6p : iv x1 0 7 := by have b0a := (hx1).1; have b0b := (hx1).2; exact ⟨by omega, by omega⟩
    have hx2_6p : iv x2 0 5 := by have b0a := (hx2).1; have b0b := (hx2).2; exact ⟨by omega, by omega⟩
    refine lv_aload_n hx hb dX10_turnsTo_12 rfl (lv_at hl 0 rfl) ?_
    refine lv_iload_n hx hb dX10_turnsTo_13 rfl (lv_at hl 1 rfl) ?_
    refine lv_iconst (v := 2) hx hb dX10_turnsTo_14 (by decide) ?_
    refine ti_calli (va_runV (As := [.int x1, .int (2 : Int32)]) (rest := []) ⟨hx, hb, hml, hown, hts⟩ (t_X10_of l hT ha0 (iv_w hx1_6p (by decide)) (iv_w (iv_c (x := (2 : Int32)) (k := 2) (by decide)) (by decide)) hU) (cwV 2 hts (good_V kw_490 kw_491 kw_492 kw_5 kw_493) rfl rfl rfl (by decide +kernel) ⟨by rw [hR]; decide, by rw [hR]; decide⟩) (ti_preV hK hT ha0 rfl rfl) rfl rfl hl.1 rfl (lv_room (Nat.le_of_ble_eq_true rfl)) dX10_turnsTo_15 ⟨Nat.zero_le _, Nat.zero_le _⟩) hS (pW_sub rfl) (fun v15 H1 locs hB hS _ hk15 => ?_)
    obtain ⟨hH, hp15⟩ := hB
    rw [hH] at hS ⊢
    have kl2 : (2 : Int32).toInt = 2 := by decide
    refine lv_istore_n (lv' := [(3, .int v15), (0, .ref a0), (1, .int x1), (2, .int x2)]) hx hb dX10_turnsTo_18 rfl hl (by decide) rfl (fun ls hl => ?_)
    refine lv_aload_n hx hb dX10_turnsTo_19 rfl (lv_at hl 1 rfl) ?_
    refine lv_iload_n hx hb dX10_turnsTo_20 rfl (lv_at hl 2 rfl) ?_
    refine lv_iload_n hx hb dX10_turnsTo_21 rfl (lv_at hl 3 rfl) ?_
    refine ti_callv (va_runV (As := [.int x1, .int x2]) (rest := []) ⟨hx, hb, hml, hown, hts⟩ (t_X10_takesWay l hT ha0 (iv_w hx1_6p (by decide)) (iv_w hx2_6p (by decide)) hU) (cwV 2 hts (good_V kw_1141 kw_1142 kw_1143 kw_5 kw_1144) rfl rfl rfl (by decide +kernel) ⟨by rw [hR]; decide, by rw [hR]; decide⟩) (ti_preV hK hT ha0 rfl rfl) rfl rfl hl.1 rfl (lv_room (Nat.le_of_ble_eq_true rfl)) dX10_turnsTo_22 ⟨Nat.zero_le _, Nat.zero_le _⟩) hS (pW_sub rfl) (fun H locs hB hS _ hk22 => ?_)
    have hT := hB
    refine lv_iload_n hx hb dX10_turnsTo_25 rfl (lv_at hl 0 rfl) ?_
    exact ret _ _ _ _ _ dX10_turnsTo_26 (hT) hS
  · skip
    have kl0 : (0 : Int32).toInt = 0 := by decide
    have f6 := i_eq c6
    have hv3_6l : iv v3 0 0 := iv_eql hv3 (iv_c (x := (0 : Int32)) (k := 0) (by decide)) c6 (by decide)
    refine lv_bipush (v := (-2)) hx hb dX10_turnsTo_9 (by decide) ?_
    exact ret _ _ _ _ _ dX10_turnsTo_11 (hT) hS
set_option maxHeartbeats 4000000 in
set_option maxRecDepth 100000 in
theorem t_X10_idle (l : Launch) {D : va_G} {c0 : Nat → ClassId} {Y : Nat → Option Nat} {ν : Nat → Nat} {H : Heap} (hT : TI D vwCl (tysOf c0) (RTg ν) Y H) {a0 : Nat} (ha0 : Y a0 = some 10) {x1 : Int32} (hx1 : iv x1 (-2147483648) 2147483647) (hν3 : ν 3 = 0) (hν5 : ν 5 = 0) (hU : uq Y) : Met l yX10_idle (wz yX10_idle cX10_idle 2 (some .int)) { frames := 10, cells := 0, slots := 0, locals := 287 } (TP D vwCl (tysOf c0) H [.ref a0, .int x1]) (TQi (fun x H' => TI D vwCl (tysOf c0) (RTg ν) Y H') Y [10, 29, 30, 41, 42, 43]) 0 0 (pW Y [10, 29, 30, 41, 42, 43]) := by
  refine Met.ofW (cc := cX10_idle) (maxL := 2) (ret := (some .int)) (by decide) rfl ?_
  intro p e s m args below meth c s₁ B hml hv
  obtain ⟨rfl, rfl, hK⟩ := hv
  have hx := B.exec
  have hb := B.bytes
  have hr := B.returns
  have hts : ∀ w ∈ wq, w.before _ s = true := fun w h => atoms_spec (ws := wz yX10_idle cX10_idle 2 (some .int)) B.pre w (List.mem_cons_of_mem _ h)
  have hown : s.vm.findClass RX10 = some m.cls := findClass_of_methodNamed B.named
  have hlocks := B.notSynchronized
  obtain ⟨R, hR⟩ : ∃ R : Room, R = ({ frames := 10, cells := 0, slots := 0, locals := 287 } : Room) := ⟨_, rfl⟩
  rw [show (headSpec (wz yX10_idle cX10_idle 2 (some .int)) { frames := 10, cells := 0, slots := 0, locals := 287 }).room = R from hR.symm]
  refine ti_mi hx hb hr hlocks (fun Q ret => ?_)
  have hl := lv_entry [.ref a0, .int x1] (n := 2) (Nat.le_of_ble_eq_true rfl)
  rw [lg_entry_eq]
  generalize (lg_sl [.ref a0, .int x1] ++ List.replicate (2 - (lg_sl [.ref a0, .int x1]).length) Slot.unset).toArray = ls at hl ⊢
  have hl : lv_has ls 2 [(0, .ref a0), (1, .int x1)] := hl
  refine ti_gen (P := fun H => TI D vwCl (tysOf c0) (RTg ν) Y H) (Y := Y) (ws := [10, 29, 30, 41, 42, 43]) hT (fun H locs hT hS => ?_)
  refine lv_aload_n hx hb dX10_idle_0 rfl (lv_at hl 0 rfl) ?_
  refine lv_iload_n hx hb dX10_idle_1 rfl (lv_at hl 1 rfl) ?_
  refine ti_calli (va_runV (As := [.int x1]) (rest := []) ⟨hx, hb, hml, hown, hts⟩ (t_X10_isRun l hT ha0 (iv_w hx1 (by decide)) hU) (cwV 1 hts (good_V kw_935 kw_936 kw_937 kw_5 kw_938) rfl rfl rfl (by decide +kernel) ⟨by rw [hR]; decide, by rw [hR]; decide⟩) (ti_preV hK hT ha0 rfl rfl) rfl rfl hl.1 rfl (lv_room (Nat.le_of_ble_eq_true rfl)) dX10_idle_2 ⟨Nat.zero_le _, Nat.zero_le _⟩) hS (pW_sub rfl) (fun v2 H1 locs hB hS _ hk2 => ?_)
  obtain ⟨hH, hv2, hp2⟩ := hB
  rw [hH] at hS ⊢
  refine lv_if_ne (tgt := 11) hx hb dX10_idle_5 (by decide) (fun c5 => ?_) (fun c5 => ?_)
  · skip
    have kl0 : (0 : Int32).toInt = 0 := by decide
    have f5 := i_ne c5
    have hv2_5l : iv v2 1 1 := iv_nel hv2 (iv_c (x := (0 : Int32)) (k := 0) (by decide)) c5 (by decide)
    have hx1_5p : iv x1 1 30 := by have b0a := (hx1).1; have b0b := (hx1).2; exact ⟨by omega, by omega⟩
    refine lv_aload_n hx hb dX10_idle_11 rfl (lv_at hl 0 rfl) ?_
    refine ti_callv (va_runV (As := []) (rest := []) ⟨hx, hb, hml, hown, hts⟩ (t_X10_thinks l hT ha0 hν3 hν5 hU) (cwV 0 hts (good_V kw_819 kw_820 kw_821 kw_5 kw_822) rfl rfl rfl (by decide +kernel) ⟨by rw [hR]; decide, by rw [hR]; decide⟩) (ti_preV hK hT ha0 rfl rfl) rfl rfl hl.1 rfl (lv_room (Nat.le_of_ble_eq_true rfl)) dX10_idle_12 ⟨Nat.zero_le _, Nat.zero_le _⟩) hS (pW_sub rfl) (fun H locs hB hS _ hk12 => ?_)
    have hT := hB
    refine lv_aload_n hx hb dX10_idle_15 rfl (lv_at hl 0 rfl) ?_
    refine lv_iload_n hx hb dX10_idle_16 rfl (lv_at hl 1 rfl) ?_
    refine ti_calli (va_runV (As := [.int x1]) (rest := []) ⟨hx, hb, hml, hown, hts⟩ (t_X10_runs l hT ha0 (iv_w hx1_5p (by decide)) hU) (cwV 1 hts (good_V kw_939 kw_940 kw_941 kw_5 kw_942) rfl rfl rfl (by decide +kernel) ⟨by rw [hR]; decide, by rw [hR]; decide⟩) (ti_preV hK hT ha0 rfl rfl) rfl rfl hl.1 rfl (lv_room (Nat.le_of_ble_eq_true rfl)) dX10_idle_17 ⟨Nat.zero_le _, Nat.zero_le _⟩) hS (pW_sub rfl) (fun v17 H locs hB hS _ hk17 => ?_)
    have hT := hB
    refine lv_pop hx hb dX10_idle_20 rfl ?_
    refine lv_aload_n hx hb dX10_idle_21 rfl (lv_at hl 0 rfl) ?_
    refine ti_callv (va_runV (As := []) (rest := []) ⟨hx, hb, hml, hown, hts⟩ (t_X10_wakes l hT ha0 rfl rfl hU) (cwV 0 hts (good_V kw_824 kw_825 kw_826 kw_5 kw_827) rfl rfl rfl (by decide +kernel) ⟨by rw [hR]; decide, by rw [hR]; decide⟩) (ti_preV hK hT ha0 rfl rfl) rfl rfl hl.1 rfl (lv_room (Nat.le_of_ble_eq_true rfl)) dX10_idle_22 ⟨Nat.zero_le _, Nat.zero_le _⟩) hS (pW_sub rfl) (fun H locs hB hS _ hk22 => ?_)
    have hT := hB
    rw [nu_back hν3 hν5] at hT
    refine lv_aload_n hx hb dX10_idle_25 rfl (lv_at hl 0 rfl) ?_
    refine ti_geti hx hb hts inlX10 hown hK hT ha0 rfl rfl rfl 27 (by decide) (hts _ kw_943) (fun _ h9 => h9) rfl dX10_idle_26 (fun v26 hv26 hm26 => ?_)
    exact ret _ _ _ _ _ dX10_idle_29 (hT) hS
  · skip
    have kl0 : (0 : Int32).toInt = 0 := by decide
    have f5 := i_eq c5
    have hv2_5l : iv v2 0 0 := iv_eql hv2 (iv_c (x := (0 : Int32)) (k := 0) (by decide)) c5 (by decide)
    refine lv_bipush (v := (-2)) hx hb dX10_idle_8 (by decide) ?_
    exact ret _ _ _ _ _ dX10_idle_10 (hT) hS
set_option maxHeartbeats 4000000 in
set_option maxRecDepth 100000 in
theorem t_X10_spreadOf (l : Launch) {D : va_G} {c0 : Nat → ClassId} {Y : Nat → Option Nat} {ν : Nat → Nat} {H : Heap} (hT : TI D vwCl (tysOf c0) (RTg ν) Y H) {a0 : Nat} (ha0 : Y a0 = some 10) (hU : uq Y) : Met l yX10_spreadOf (wz yX10_spreadOf cX10_spreadOf 4 (some .int)) { frames := 1, cells := 0, slots := 0, locals := 60 } (TP D vwCl (tysOf c0) H [.ref a0]) (TQi (fun x H' => H' = H) Y []) 0 0 (pW Y []) := by
  refine Met.ofW (cc := cX10_spreadOf) (maxL := 4) (ret := (some .int)) (by decide) rfl ?_
  intro p e s m args below meth c s₁ B hml hv
  obtain ⟨rfl, rfl, hK⟩ := hv
  have hx := B.exec
  have hb := B.bytes
  have hr := B.returns
  have hts : ∀ w ∈ wq, w.before _ s = true := fun w h => atoms_spec (ws := wz yX10_spreadOf cX10_spreadOf 4 (some .int)) B.pre w (List.mem_cons_of_mem _ h)
  have hown : s.vm.findClass RX10 = some m.cls := findClass_of_methodNamed B.named
  have hlocks := B.notSynchronized
  obtain ⟨R, hR⟩ : ∃ R : Room, R = ({ frames := 1, cells := 0, slots := 0, locals := 60 } : Room) := ⟨_, rfl⟩
  rw [show (headSpec (wz yX10_spreadOf cX10_spreadOf 4 (some .int)) { frames := 1, cells := 0, slots := 0, locals := 60 }).room = R from hR.symm]
  refine ti_mi hx hb hr hlocks (fun Q ret => ?_)
  have hl := lv_entry [.ref a0] (n := 4) (Nat.le_of_ble_eq_true rfl)
  rw [lg_entry_eq]
  generalize (lg_sl [.ref a0] ++ List.replicate (4 - (lg_sl [.ref a0]).length) Slot.unset).toArray = ls at hl ⊢
  have hl : lv_has ls 4 [(0, .ref a0)] := hl
  have hS : va_S (pW Y []) s.heap s.heap [] := va_S.rf
  refine lv_iconst (v := 0) hx hb dX10_spreadOf_0 (by decide) ?_
  refine lv_istore_n (lv' := [(1, .int (0 : Int32)), (0, .ref a0)]) hx hb dX10_spreadOf_1 rfl hl (by decide) rfl (fun ls hl => ?_)
  refine lv_iconst (v := 0) hx hb dX10_spreadOf_2 (by decide) ?_
  have J4 : ∀ (n : Nat) (j4_L1 : Int32) (j4_L2 : Int32) (locs : List Loc) (ls : Array Slot), (8 - j4_L2.toInt).toNat < n → iv j4_L1 (-2147483648) 2147483647 → iv j4_L2 0 8 → va_S (pW Y []) s.heap s.heap locs → lv_has ls 4 [(0, .ref a0), (1, .int j4_L1), (2, .int j4_L2)] → W p l e R s m ([.ref a0] : List Value).toArray below meth c s.heap locs 0 0 Q (F0 m 4 ls []) := by
    intro n
    induction n with
    | zero => intro j4_L1 j4_L2 locs ls hms; exact absurd hms (Nat.not_lt_zero _)
    | succ n ih4 =>
      intro j4_L1 j4_L2 locs ls hms4 hj4_L1 hj4_L2 hS hl
      refine lv_iload_n hx hb dX10_spreadOf_4 rfl (lv_at hl 2 rfl) ?_
      refine lv_aload_n hx hb dX10_spreadOf_5 rfl (lv_at hl 0 rfl) ?_
      refine ti_calli (va_runV (As := []) (rest := [.int j4_L2]) ⟨hx, hb, hml, hown, hts⟩ (t_X10_people l hT ha0 hU) (cwV 0 hts (good_V kw_605 kw_606 kw_607 kw_5 kw_608) rfl rfl rfl (by decide +kernel) ⟨by rw [hR]; decide, by rw [hR]; decide⟩) (ti_preV hK hT ha0 rfl rfl) rfl rfl hl.1 rfl (lv_room (Nat.le_of_ble_eq_true rfl)) dX10_spreadOf_6 ⟨Nat.zero_le _, Nat.zero_le _⟩) hS (pW_sub rfl) (fun v6 H1 locs hB hS _ hk6 => ?_)
      obtain ⟨hH, hv6, hp6⟩ := hB
      rw [hH] at hS ⊢
      refine lv_icmp_ge (tgt := 50) hx hb dX10_spreadOf_9 (by decide) (fun c9 => ?_) (fun c9 => ?_)
      · skip
        have f9 := i_le c9
        refine lv_iload_n hx hb dX10_spreadOf_50 rfl (lv_at hl 1 rfl) ?_
        exact ret _ _ _ _ _ dX10_spreadOf_51 (rfl) hS
      · skip
        have f9 := i_nle c9
        have hj4_L2_9l : iv j4_L2 0 7 := iv_ltl hj4_L2 hv6 (Int32.not_le.mp c9) (by decide)
        have hv6_9r : iv v6 1 8 := iv_ltr hj4_L2_9l hv6 (Int32.not_le.mp c9) (by decide)
        refine lv_iconst (v := 0) hx hb dX10_spreadOf_12 (by decide) ?_
        have J14 : ∀ (n : Nat) (j14_L1 : Int32) (j14_L3 : Int32) (locs : List Loc) (ls : Array Slot), (7 - j14_L3.toInt).toNat < n → iv j14_L1 (-2147483648) 2147483647 → iv j14_L3 0 7 → va_S (pW Y []) s.heap s.heap locs → lv_has ls 4 [(0, .ref a0), (1, .int j14_L1), (2, .int j4_L2), (3, .int j14_L3)] → W p l e R s m ([.ref a0] : List Value).toArray below meth c s.heap locs 0 0 Q (F0 m 14 ls []) := by
          intro n
          induction n with
          | zero => intro j14_L1 j14_L3 locs ls hms; exact absurd hms (Nat.not_lt_zero _)
          | succ n ih14 =>
            intro j14_L1 j14_L3 locs ls hms14 hj14_L1 hj14_L3 hS hl
            refine lv_iload_n hx hb dX10_spreadOf_14 rfl (lv_at hl 3 rfl) ?_
            refine lv_iload_n hx hb dX10_spreadOf_15 rfl (lv_at hl 2 rfl) ?_
            refine lv_icmp_ge (tgt := 44) hx hb dX10_spreadOf_16 (by decide) (fun c16 => ?_) (fun c16 => ?_)
            · skip
              have f16 := i_le c16
              obtain ⟨v44, e44⟩ : ∃ y : Int32, y = j4_L2 + 1 := ⟨_, rfl⟩
              have hv44 : iv v44 1 8 := by rw [e44]; exact iv_w (iv_add hj4_L2_9l (iv_c (x := (1 : Int32)) (k := 1) (by decide)) (by decide)) (by decide)
              have s44 : v44.toInt = j4_L2.toInt + 1 := by rw [e44, iv_addE hj4_L2_9l (iv_c (x := (1 : Int32)) (k := 1) (by decide)) (by decide)]; rfl
              refine lv_iinc (v := v44) (lv' := [(2, .int v44), (0, .ref a0), (1, .int j14_L1), (3, .int j14_L3)]) hx hb dX10_spreadOf_44 hl (k := 2) rfl (by rw [e44]; rfl) (by decide) rfl (fun ls hl => ?_)
              refine lv_goto (tgt := 4) hx hb dX10_spreadOf_47 (by decide) ?_
              exact ih4 j14_L1 v44 _ _ (ms_up hms4 (by have := s44; omega) (iv_w (c := 1) (d := 8) hv44 (by decide)).2) (iv_w hj14_L1 (by decide)) (iv_w hv44 (by decide))  hS (lv_sub hl [1, 2, 0] rfl)
            · skip
              have f16 := i_nle c16
              have hj14_L3_16l : iv j14_L3 0 6 := iv_ltl hj14_L3 hj4_L2_9l (Int32.not_le.mp c16) (by decide)
              have hj4_L2_16r : iv j4_L2 1 7 := iv_ltr hj14_L3_16l hj4_L2_9l (Int32.not_le.mp c16) (by decide)
              refine lv_iload_n hx hb dX10_spreadOf_19 rfl (lv_at hl 1 rfl) ?_
              refine lv_aload_n hx hb dX10_spreadOf_20 rfl (lv_at hl 0 rfl) ?_
              refine lv_iload_n hx hb dX10_spreadOf_21 rfl (lv_at hl 2 rfl) ?_
              refine lv_iconst (v := 0) hx hb dX10_spreadOf_22 (by decide) ?_
              refine ti_calli (va_runV (As := [.int j4_L2, .int (0 : Int32)]) (rest := [.int j14_L1]) ⟨hx, hb, hml, hown, hts⟩ (t_X10_of l hT ha0 (iv_w hj4_L2_16r (by decide)) (iv_w (iv_c (x := (0 : Int32)) (k := 0) (by decide)) (by decide)) hU) (cwV 2 hts (good_V kw_490 kw_491 kw_492 kw_5 kw_493) rfl rfl rfl (by decide +kernel) ⟨by rw [hR]; decide, by rw [hR]; decide⟩) (ti_preV hK hT ha0 rfl rfl) rfl rfl hl.1 rfl (lv_room (Nat.le_of_ble_eq_true rfl)) dX10_spreadOf_23 ⟨Nat.zero_le _, Nat.zero_le _⟩) hS (pW_sub rfl) (fun v23 H1 locs hB hS _ hk23 => ?_)
              obtain ⟨hH, hp23⟩ := hB
              rw [hH] at hS ⊢
              have kl0 : (0 : Int32).toInt = 0 := by decide
              have hf23 : iv v23 (-2147483648) 100000 := by have b0a := ((iv_top v23)).1; have b0b := ((iv_top v23)).2; exact ⟨by omega, by omega⟩
              refine lv_aload_n hx hb dX10_spreadOf_26 rfl (lv_at hl 0 rfl) ?_
              refine lv_iload_n hx hb dX10_spreadOf_27 rfl (lv_at hl 3 rfl) ?_
              refine lv_iconst (v := 0) hx hb dX10_spreadOf_28 (by decide) ?_
              refine ti_calli (va_runV (As := [.int j14_L3, .int (0 : Int32)]) (rest := [.int v23, .int j14_L1]) ⟨hx, hb, hml, hown, hts⟩ (t_X10_of l hT ha0 (iv_w hj14_L3_16l (by decide)) (iv_w (iv_c (x := (0 : Int32)) (k := 0) (by decide)) (by decide)) hU) (cwV 2 hts (good_V kw_490 kw_491 kw_492 kw_5 kw_493) rfl rfl rfl (by decide +kernel) ⟨by rw [hR]; decide, by rw [hR]; decide⟩) (ti_preV hK hT ha0 rfl rfl) rfl rfl hl.1 rfl (lv_room (Nat.le_of_ble_eq_true rfl)) dX10_spreadOf_29 ⟨Nat.zero_le _, Nat.zero_le _⟩) hS (pW_sub rfl) (fun v29 H1 locs hB hS _ hk29 => ?_)
              obtain ⟨hH, hp29⟩ := hB
              rw [hH] at hS ⊢
              have hf29 : iv v29 (-2147483648) 100000 := by have b0a := ((iv_top v29)).1; have b0b := ((iv_top v29)).2; exact ⟨by omega, by omega⟩
              refine lv_isub hx hb dX10_spreadOf_32 ?_
              refine lv_topi (fun v32 e32 => ?_)
              have hv32 : iv v32 (-2147483648) 2147483647 := iv_top _
              refine va_mabs hx hb (by rw [hml]; exact hl.1.symm) hown (hts _ kw_1189) (hts _ kw_1179) (hts _ kw_212) (hts _ kw_1180) (by rw [hR]; decide) (by rw [hR]; exact Nat.le_of_ble_eq_true rfl) (Nat.zero_le _) (Nat.zero_le _) dX10_spreadOf_33 ?_
              refine lv_topi (fun v33 e33 => ?_)
              have hv33 : iv v33 (-2147483648) 2147483647 := iv_top _
              refine lv_iadd hx hb dX10_spreadOf_36 ?_
              refine lv_topi (fun v36 e36 => ?_)
              have hv36 : iv v36 (-2147483648) 2147483647 := iv_top _
              refine lv_istore_n (lv' := [(1, .int v36), (0, .ref a0), (2, .int j4_L2), (3, .int j14_L3)]) hx hb dX10_spreadOf_37 rfl hl (by decide) rfl (fun ls hl => ?_)
              obtain ⟨v38, e38⟩ : ∃ y : Int32, y = j14_L3 + 1 := ⟨_, rfl⟩
              have hv38 : iv v38 1 7 := by rw [e38]; exact iv_w (iv_add hj14_L3_16l (iv_c (x := (1 : Int32)) (k := 1) (by decide)) (by decide)) (by decide)
              have s38 : v38.toInt = j14_L3.toInt + 1 := by rw [e38, iv_addE hj14_L3_16l (iv_c (x := (1 : Int32)) (k := 1) (by decide)) (by decide)]; rfl
              refine lv_iinc (v := v38) (lv' := [(3, .int v38), (1, .int v36), (0, .ref a0), (2, .int j4_L2)]) hx hb dX10_spreadOf_38 hl (k := 3) rfl (by rw [e38]; rfl) (by decide) rfl (fun ls hl => ?_)
              refine lv_goto (tgt := 14) hx hb dX10_spreadOf_41 (by decide) ?_
              exact ih14 v36 v38 _ _ (ms_up hms14 (by have := s38; omega) (iv_w (c := 1) (d := 7) hv38 (by decide)).2) (iv_w hv36 (by decide)) (iv_w hv38 (by decide))  hS (lv_sub hl [2, 1, 3, 0] rfl)
        refine lv_istore_n (lv' := [(3, .int (0 : Int32)), (0, .ref a0), (1, .int j4_L1), (2, .int j4_L2)]) hx hb dX10_spreadOf_13 rfl hl (by decide) rfl (fun ls hl => ?_)
        exact J14 _ j4_L1 (0 : Int32) _ _ (Nat.lt_succ_self _) (iv_w hj4_L1 (by decide)) (iv_w (iv_c (x := (0 : Int32)) (k := 0) (by decide)) (by decide))  hS (lv_sub hl [1, 2, 3, 0] rfl)
  refine lv_istore_n (lv' := [(2, .int (0 : Int32)), (1, .int (0 : Int32)), (0, .ref a0)]) hx hb dX10_spreadOf_3 rfl hl (by decide) rfl (fun ls hl => ?_)
  exact J4 _ (0 : Int32) (0 : Int32) _ _ (Nat.lt_succ_self _) (iv_w (iv_c (x := (0 : Int32)) (k := 0) (by decide)) (by decide)) (iv_w (iv_c (x := (0 : Int32)) (k := 0) (by decide)) (by decide))  hS (lv_sub hl [2, 1, 0] rfl)
set_option maxHeartbeats 4000000 in
set_option maxRecDepth 100000 in
theorem t_X10_spread (l : Launch) {D : va_G} {c0 : Nat → ClassId} {Y : Nat → Option Nat} {ν : Nat → Nat} {H : Heap} (hT : TI D vwCl (tysOf c0) (RTg ν) Y H) {a0 : Nat} (ha0 : Y a0 = some 10) (hU : uq Y) : Met l yX10_spread (wz yX10_spread cX10_spread 1 (some .int)) { frames := 2, cells := 0, slots := 0, locals := 83 } (TP D vwCl (tysOf c0) H [.ref a0]) (TQi (fun x H' => H' = H) Y []) 0 0 (pW Y []) := by
  refine Met.ofW (cc := cX10_spread) (maxL := 1) (ret := (some .int)) (by decide) rfl ?_
  intro p e s m args below meth c s₁ B hml hv
  obtain ⟨rfl, rfl, hK⟩ := hv
  have hx := B.exec
  have hb := B.bytes
  have hr := B.returns
  have hts : ∀ w ∈ wq, w.before _ s = true := fun w h => atoms_spec (ws := wz yX10_spread cX10_spread 1 (some .int)) B.pre w (List.mem_cons_of_mem _ h)
  have hown : s.vm.findClass RX10 = some m.cls := findClass_of_methodNamed B.named
  have hlocks := B.notSynchronized
  obtain ⟨R, hR⟩ : ∃ R : Room, R = ({ frames := 2, cells := 0, slots := 0, locals := 83 } : Room) := ⟨_, rfl⟩
  rw [show (headSpec (wz yX10_spread cX10_spread 1 (some .int)) { frames := 2, cells := 0, slots := 0, locals := 83 }).room = R from hR.symm]
  refine ti_mi hx hb hr hlocks (fun Q ret => ?_)
  have hl := lv_entry [.ref a0] (n := 1) (Nat.le_of_ble_eq_true rfl)
  rw [lg_entry_eq]
  generalize (lg_sl [.ref a0] ++ List.replicate (1 - (lg_sl [.ref a0]).length) Slot.unset).toArray = ls at hl ⊢
  have hl : lv_has ls 1 [(0, .ref a0)] := hl
  have hS : va_S (pW Y []) s.heap s.heap [] := va_S.rf
  refine lv_aload_n hx hb dX10_spread_0 rfl (lv_at hl 0 rfl) ?_
  refine ti_calli (va_runV (As := []) (rest := []) ⟨hx, hb, hml, hown, hts⟩ (t_X10_spreadOf l hT ha0 hU) (cwV 0 hts (good_V kw_1185 kw_1186 kw_1187 kw_5 kw_1188) rfl rfl rfl (by decide +kernel) ⟨by rw [hR]; decide, by rw [hR]; decide⟩) (ti_preV hK hT ha0 rfl rfl) rfl rfl hl.1 rfl (lv_room (Nat.le_of_ble_eq_true rfl)) dX10_spread_1 ⟨Nat.zero_le _, Nat.zero_le _⟩) hS (pW_sub rfl) (fun v1 H1 locs hB hS _ hk1 => ?_)
  have hH := hB
  rw [hH] at hS ⊢
  exact ret _ _ _ _ _ dX10_spread_4 (rfl) hS
set_option maxHeartbeats 4000000 in
set_option maxRecDepth 100000 in
theorem t_X10_goods (l : Launch) {D : va_G} {c0 : Nat → ClassId} {Y : Nat → Option Nat} {ν : Nat → Nat} {H : Heap} (hT : TI D vwCl (tysOf c0) (RTg ν) Y H) {a0 : Nat} (ha0 : Y a0 = some 10) (hU : uq Y) : Met l yX10_goods (wz yX10_goods cX10_goods 3 (some .int)) { frames := 1, cells := 0, slots := 0, locals := 22 } (TP D vwCl (tysOf c0) H [.ref a0]) (TQi (fun x H' => H' = H) Y []) 0 0 (pW Y []) := by
  refine Met.ofW (cc := cX10_goods) (maxL := 3) (ret := (some .int)) (by decide) rfl ?_
  intro p e s m args below meth c s₁ B hml hv
  obtain ⟨rfl, rfl, hK⟩ := hv
  have hx := B.exec
  have hb := B.bytes
  have hr := B.returns
  have hts : ∀ w ∈ wq, w.before _ s = true := fun w h => atoms_spec (ws := wz yX10_goods cX10_goods 3 (some .int)) B.pre w (List.mem_cons_of_mem _ h)
  have hown : s.vm.findClass RX10 = some m.cls := findClass_of_methodNamed B.named
  have hlocks := B.notSynchronized
  obtain ⟨R, hR⟩ : ∃ R : Room, R = ({ frames := 1, cells := 0, slots := 0, locals := 22 } : Room) := ⟨_, rfl⟩
  rw [show (headSpec (wz yX10_goods cX10_goods 3 (some .int)) { frames := 1, cells := 0, slots := 0, locals := 22 }).room = R from hR.symm]
  refine ti_mi hx hb hr hlocks (fun Q ret => ?_)
  have hl := lv_entry [.ref a0] (n := 3) (Nat.le_of_ble_eq_true rfl)
  rw [lg_entry_eq]
  generalize (lg_sl [.ref a0] ++ List.replicate (3 - (lg_sl [.ref a0]).length) Slot.unset).toArray = ls at hl ⊢
  have hl : lv_has ls 3 [(0, .ref a0)] := hl
  have hS : va_S (pW Y []) s.heap s.heap [] := va_S.rf
  refine lv_iconst (v := 0) hx hb dX10_goods_0 (by decide) ?_
  refine lv_istore_n (lv' := [(1, .int (0 : Int32)), (0, .ref a0)]) hx hb dX10_goods_1 rfl hl (by decide) rfl (fun ls hl => ?_)
  refine lv_iconst (v := 0) hx hb dX10_goods_2 (by decide) ?_
  have J4 : ∀ (n : Nat) (j4_L1 : Int32) (j4_L2 : Int32) (locs : List Loc) (ls : Array Slot), (8 - j4_L2.toInt).toNat < n → iv j4_L1 (-2147483648) 2147483647 → iv j4_L2 0 8 → va_S (pW Y []) s.heap s.heap locs → lv_has ls 3 [(0, .ref a0), (1, .int j4_L1), (2, .int j4_L2)] → W p l e R s m ([.ref a0] : List Value).toArray below meth c s.heap locs 0 0 Q (F0 m 4 ls []) := by
    intro n
    induction n with
    | zero => intro j4_L1 j4_L2 locs ls hms; exact absurd hms (Nat.not_lt_zero _)
    | succ n ih4 =>
      intro j4_L1 j4_L2 locs ls hms4 hj4_L1 hj4_L2 hS hl
      refine lv_iload_n hx hb dX10_goods_4 rfl (lv_at hl 2 rfl) ?_
      refine lv_aload_n hx hb dX10_goods_5 rfl (lv_at hl 0 rfl) ?_
      refine ti_calli (va_runV (As := []) (rest := [.int j4_L2]) ⟨hx, hb, hml, hown, hts⟩ (t_X10_people l hT ha0 hU) (cwV 0 hts (good_V kw_605 kw_606 kw_607 kw_5 kw_608) rfl rfl rfl (by decide +kernel) ⟨by rw [hR]; decide, by rw [hR]; decide⟩) (ti_preV hK hT ha0 rfl rfl) rfl rfl hl.1 rfl (lv_room (Nat.le_of_ble_eq_true rfl)) dX10_goods_6 ⟨Nat.zero_le _, Nat.zero_le _⟩) hS (pW_sub rfl) (fun v6 H1 locs hB hS _ hk6 => ?_)
      obtain ⟨hH, hv6, hp6⟩ := hB
      rw [hH] at hS ⊢
      refine lv_icmp_ge (tgt := 27) hx hb dX10_goods_9 (by decide) (fun c9 => ?_) (fun c9 => ?_)
      · skip
        have f9 := i_le c9
        refine lv_iload_n hx hb dX10_goods_27 rfl (lv_at hl 1 rfl) ?_
        exact ret _ _ _ _ _ dX10_goods_28 (rfl) hS
      · skip
        have f9 := i_nle c9
        have hj4_L2_9l : iv j4_L2 0 7 := iv_ltl hj4_L2 hv6 (Int32.not_le.mp c9) (by decide)
        have hv6_9r : iv v6 1 8 := iv_ltr hj4_L2_9l hv6 (Int32.not_le.mp c9) (by decide)
        refine lv_iload_n hx hb dX10_goods_12 rfl (lv_at hl 1 rfl) ?_
        refine lv_aload_n hx hb dX10_goods_13 rfl (lv_at hl 0 rfl) ?_
        refine lv_iload_n hx hb dX10_goods_14 rfl (lv_at hl 2 rfl) ?_
        refine lv_iconst (v := 4) hx hb dX10_goods_15 (by decide) ?_
        refine ti_calli (va_runV (As := [.int j4_L2, .int (4 : Int32)]) (rest := [.int j4_L1]) ⟨hx, hb, hml, hown, hts⟩ (t_X10_of l hT ha0 (iv_w hj4_L2_9l (by decide)) (iv_w (iv_c (x := (4 : Int32)) (k := 4) (by decide)) (by decide)) hU) (cwV 2 hts (good_V kw_490 kw_491 kw_492 kw_5 kw_493) rfl rfl rfl (by decide +kernel) ⟨by rw [hR]; decide, by rw [hR]; decide⟩) (ti_preV hK hT ha0 rfl rfl) rfl rfl hl.1 rfl (lv_room (Nat.le_of_ble_eq_true rfl)) dX10_goods_16 ⟨Nat.zero_le _, Nat.zero_le _⟩) hS (pW_sub rfl) (fun v16 H1 locs hB hS _ hk16 => ?_)
        obtain ⟨hH, hp16⟩ := hB
        rw [hH] at hS ⊢
        have kl4 : (4 : Int32).toInt = 4 := by decide
        refine lv_iadd hx hb dX10_goods_19 ?_
        refine lv_topi (fun v19 e19 => ?_)
        have hv19 : iv v19 (-2147483648) 2147483647 := iv_top _
        refine lv_istore_n (lv' := [(1, .int v19), (0, .ref a0), (2, .int j4_L2)]) hx hb dX10_goods_20 rfl hl (by decide) rfl (fun ls hl => ?_)
        obtain ⟨v21, e21⟩ : ∃ y : Int32, y = j4_L2 + 1 := ⟨_, rfl⟩
        have hv21 : iv v21 1 8 := by rw [e21]; exact iv_w (iv_add hj4_L2_9l (iv_c (x := (1 : Int32)) (k := 1) (by decide)) (by decide)) (by decide)
        have s21 : v21.toInt = j4_L2.toInt + 1 := by rw [e21, iv_addE hj4_L2_9l (iv_c (x := (1 : Int32)) (k := 1) (by decide)) (by decide)]; rfl
        refine lv_iinc (v := v21) (lv' := [(2, .int v21), (1, .int v19), (0, .ref a0)]) hx hb dX10_goods_21 hl (k := 2) rfl (by rw [e21]; rfl) (by decide) rfl (fun ls hl => ?_)
        refine lv_goto (tgt := 4) hx hb dX10_goods_24 (by decide) ?_
        exact ih4 v19 v21 _ _ (ms_up hms4 (by have := s21; omega) (iv_w (c := 1) (d := 8) hv21 (by decide)).2) (iv_w hv19 (by decide)) (iv_w hv21 (by decide))  hS (lv_sub hl [2, 1, 0] rfl)
  refine lv_istore_n (lv' := [(2, .int (0 : Int32)), (1, .int (0 : Int32)), (0, .ref a0)]) hx hb dX10_goods_3 rfl hl (by decide) rfl (fun ls hl => ?_)
  exact J4 _ (0 : Int32) (0 : Int32) _ _ (Nat.lt_succ_self _) (iv_w (iv_c (x := (0 : Int32)) (k := 0) (by decide)) (by decide)) (iv_w (iv_c (x := (0 : Int32)) (k := 0) (by decide)) (by decide))  hS (lv_sub hl [2, 1, 0] rfl)
set_option maxHeartbeats 4000000 in
set_option maxRecDepth 100000 in
theorem t_X10_beside (l : Launch) {D : va_G} {c0 : Nat → ClassId} {Y : Nat → Option Nat} {ν : Nat → Nat} {H : Heap} (hT : TI D vwCl (tysOf c0) (RTg ν) Y H) {a0 : Nat} (ha0 : Y a0 = some 10) {x1 : Int32} (hx1 : iv x1 (-2147483648) 2147483647) {x2 : Int32} (hx2 : iv x2 (-2147483648) 2147483647) (hν3 : ν 3 = 0) (hν5 : ν 5 = 0) (hU : uq Y) : Met l yX10_beside (wz yX10_beside cX10_beside 6 (some .int)) { frames := 10, cells := 0, slots := 0, locals := 287 } (TP D vwCl (tysOf c0) H [.ref a0, .int x1, .int x2]) (TQi (fun x H' => TI D vwCl (tysOf c0) (RTg ν) Y H') Y [10, 29, 30, 41, 42, 43]) 0 0 (pW Y [10, 29, 30, 41, 42, 43]) := by
  refine Met.ofW (cc := cX10_beside) (maxL := 6) (ret := (some .int)) (by decide) rfl ?_
  intro p e s m args below meth c s₁ B hml hv
  obtain ⟨rfl, rfl, hK⟩ := hv
  have hx := B.exec
  have hb := B.bytes
  have hr := B.returns
  have hts : ∀ w ∈ wq, w.before _ s = true := fun w h => atoms_spec (ws := wz yX10_beside cX10_beside 6 (some .int)) B.pre w (List.mem_cons_of_mem _ h)
  have hown : s.vm.findClass RX10 = some m.cls := findClass_of_methodNamed B.named
  have hlocks := B.notSynchronized
  obtain ⟨R, hR⟩ : ∃ R : Room, R = ({ frames := 10, cells := 0, slots := 0, locals := 287 } : Room) := ⟨_, rfl⟩
  rw [show (headSpec (wz yX10_beside cX10_beside 6 (some .int)) { frames := 10, cells := 0, slots := 0, locals := 287 }).room = R from hR.symm]
  refine ti_mi hx hb hr hlocks (fun Q ret => ?_)
  have hl := lv_entry [.ref a0, .int x1, .int x2] (n := 6) (Nat.le_of_ble_eq_true rfl)
  rw [lg_entry_eq]
  generalize (lg_sl [.ref a0, .int x1, .int x2] ++ List.replicate (6 - (lg_sl [.ref a0, .int x1, .int x2]).length) Slot.unset).toArray = ls at hl ⊢
  have hl : lv_has ls 6 [(0, .ref a0), (1, .int x1), (2, .int x2)] := hl
  refine ti_gen (P := fun H => TI D vwCl (tysOf c0) (RTg ν) Y H) (Y := Y) (ws := [10, 29, 30, 41, 42, 43]) hT (fun H locs hT hS => ?_)
  refine lv_aload_n hx hb dX10_beside_0 rfl (lv_at hl 0 rfl) ?_
  refine lv_iload_n hx hb dX10_beside_1 rfl (lv_at hl 1 rfl) ?_
  refine ti_calli (va_runV (As := [.int x1]) (rest := []) ⟨hx, hb, hml, hown, hts⟩ (t_X10_isRun l hT ha0 (iv_w hx1 (by decide)) hU) (cwV 1 hts (good_V kw_935 kw_936 kw_937 kw_5 kw_938) rfl rfl rfl (by decide +kernel) ⟨by rw [hR]; decide, by rw [hR]; decide⟩) (ti_preV hK hT ha0 rfl rfl) rfl rfl hl.1 rfl (lv_room (Nat.le_of_ble_eq_true rfl)) dX10_beside_2 ⟨Nat.zero_le _, Nat.zero_le _⟩) hS (pW_sub rfl) (fun v2 H1 locs hB hS _ hk2 => ?_)
  obtain ⟨hH, hv2, hp2⟩ := hB
  rw [hH] at hS ⊢
  have J20 : ∀  (H : Heap) (locs : List Loc) (ls : Array Slot), TI D vwCl (tysOf c0) (RTg ν) Y H → va_S (pW Y [10, 29, 30, 41, 42, 43]) s.heap H locs → lv_has ls 6 [(0, .ref a0), (1, .int x1), (2, .int x2)] → W p l e R s m ([.ref a0, .int x1, .int x2] : List Value).toArray below meth c H locs 0 0 Q (F0 m 20 ls []) := by
    intro  H locs ls  hT hS hl
    refine lv_ldcw (v := (-2000000000)) hx hb hown (hts _ kw_960) dX10_beside_20 ?_
    exact ret _ _ _ _ _ dX10_beside_23 (hT) hS
  refine lv_if_eq (tgt := 20) hx hb dX10_beside_5 (by decide) (fun c5 => ?_) (fun c5 => ?_)
  · skip
    have kl0 : (0 : Int32).toInt = 0 := by decide
    have f5 := i_eq c5
    have hv2_5l : iv v2 0 0 := iv_eql hv2 (iv_c (x := (0 : Int32)) (k := 0) (by decide)) c5 (by decide)
    exact J20  _ _ _   hT hS (lv_sub hl [0, 1, 2] rfl)
  · skip
    have kl0 : (0 : Int32).toInt = 0 := by decide
    have f5 := i_ne c5
    have hv2_5l : iv v2 1 1 := iv_nel hv2 (iv_c (x := (0 : Int32)) (k := 0) (by decide)) c5 (by decide)
    have hx1_5p : iv x1 1 30 := by have b0a := (hx1).1; have b0b := (hx1).2; exact ⟨by omega, by omega⟩
    refine lv_iload_n hx hb dX10_beside_8 rfl (lv_at hl 2 rfl) ?_
    refine lv_i2l hx hb dX10_beside_9 rfl ?_
    refine lv_topl (fun v9 e9 => ?_)
    have hv9 : jv v9 (-2147483648) 2147483647 := by rw [e9]; exact jv_i hx2
    have t9 : v9.toInt = x2.toInt := by rw [e9]; exact jv_e _
    refine lv_lconst (v := 0) hx hb dX10_beside_10 (by decide) ?_
    have kj0 : (0 : Int64).toInt = 0 := by decide
    refine lv_ldc2 (v := 4) hx hb hown (hts _ kw_1027) dX10_beside_11 ?_
    have kj4 : (4 : Int64).toInt = 4 := by decide
    refine ti_calli (va_runS (As := [.long v9, .long (0 : Int64), .long (4 : Int64)]) (rest := []) ⟨hx, hb, hml, hown, hts⟩ (t_X10_in l hT (jv_w hv9 (by decide)) (jv_w (jv_c (x := (0 : Int64)) (k := 0) (by decide)) (by decide)) (jv_w (jv_c (x := (4 : Int64)) (k := 4) (by decide)) (by decide))) (cwS 3 hts (good_S kw_181 kw_182 kw_5 kw_183) rfl rfl rfl (by decide +kernel) ⟨by rw [hR]; decide, by rw [hR]; decide⟩) (ti_preS hK) rfl rfl hl.1 rfl (lv_room (Nat.le_of_ble_eq_true rfl)) dX10_beside_14 ⟨Nat.zero_le _, Nat.zero_le _⟩) hS (pW_sub rfl) (fun v14 H1 locs hB hS _ hk14 => ?_)
    obtain ⟨hH, hv14, hp14⟩ := hB
    rw [hH] at hS ⊢
    refine lv_if_ne (tgt := 24) hx hb dX10_beside_17 (by decide) (fun c17 => ?_) (fun c17 => ?_)
    · skip
      have f17 := i_ne c17
      have hv14_17l : iv v14 1 1 := iv_nel hv14 (iv_c (x := (0 : Int32)) (k := 0) (by decide)) c17 (by decide)
      have hv9_17p : jv v9 0 4 := by have b0a := (hv9).1; have b0b := (hv9).2; have b1a := ((jv_c (x := (0 : Int64)) (k := 0) (by decide))).1; have b1b := ((jv_c (x := (0 : Int64)) (k := 0) (by decide))).2; have b2a := ((jv_c (x := (4 : Int64)) (k := 4) (by decide))).1; have b2b := ((jv_c (x := (4 : Int64)) (k := 4) (by decide))).2; exact ⟨by omega, by omega⟩
      have hx2_17p : iv x2 0 4 := by have := t9; have b0a := (hv9_17p).1; have b0b := (hv9_17p).2; have b1a := (hx2).1; have b1b := (hx2).2; exact ⟨by omega, by omega⟩
      refine lv_aload_n hx hb dX10_beside_24 rfl (lv_at hl 0 rfl) ?_
      refine ti_calli (va_runV (As := []) (rest := []) ⟨hx, hb, hml, hown, hts⟩ (t_X10_goods l hT ha0 hU) (cwV 0 hts (good_V kw_1202 kw_1203 kw_1204 kw_5 kw_1205) rfl rfl rfl (by decide +kernel) ⟨by rw [hR]; decide, by rw [hR]; decide⟩) (ti_preV hK hT ha0 rfl rfl) rfl rfl hl.1 rfl (lv_room (Nat.le_of_ble_eq_true rfl)) dX10_beside_25 ⟨Nat.zero_le _, Nat.zero_le _⟩) hS (pW_sub rfl) (fun v25 H1 locs hB hS _ hk25 => ?_)
      have hH := hB
      rw [hH] at hS ⊢
      refine lv_istore_n (lv' := [(3, .int v25), (0, .ref a0), (1, .int x1), (2, .int x2)]) hx hb dX10_beside_28 rfl hl (by decide) rfl (fun ls hl => ?_)
      refine lv_aload_n hx hb dX10_beside_29 rfl (lv_at hl 1 rfl) ?_
      refine ti_callv (va_runV (As := []) (rest := []) ⟨hx, hb, hml, hown, hts⟩ (t_X10_thinks l hT ha0 hν3 hν5 hU) (cwV 0 hts (good_V kw_819 kw_820 kw_821 kw_5 kw_822) rfl rfl rfl (by decide +kernel) ⟨by rw [hR]; decide, by rw [hR]; decide⟩) (ti_preV hK hT ha0 rfl rfl) rfl rfl hl.1 rfl (lv_room (Nat.le_of_ble_eq_true rfl)) dX10_beside_30 ⟨Nat.zero_le _, Nat.zero_le _⟩) hS (pW_sub rfl) (fun H locs hB hS _ hk30 => ?_)
      have hT := hB
      refine lv_aload_n hx hb dX10_beside_33 rfl (lv_at hl 1 rfl) ?_
      refine ti_getr hx hb hts inlX10 hown hK hT ha0 rfl rfl rfl 1 (by decide) (hts _ kw_130) (fun _ h9 => h9) rfl dX10_beside_34 (fun v34 hv34 hm34 => ?_)
      refine lv_bipush (v := 13) hx hb dX10_beside_37 (by decide) ?_
      refine lv_iload_n hx hb dX10_beside_39 rfl (lv_at hl 3 rfl) ?_
      refine lv_iconst (v := 1) hx hb dX10_beside_40 (by decide) ?_
      have J54 : ∀ (j54_S2 : Int32) (H : Heap) (locs : List Loc) (ls : Array Slot), iv j54_S2 0 1 → TI D vwCl (tysOf c0) (RTg (νt ν)) Y H → va_S (pW Y [10, 29, 30, 41, 42, 43]) s.heap H locs → lv_has ls 6 [(0, .ref a0), (1, .int x1), (2, .int x2), (3, .int v25)] → W p l e R s m ([.ref a0, .int x1, .int x2] : List Value).toArray below meth c H locs 0 0 Q (F0 m 54 ls [.int j54_S2, .int (13 : Int32), .ref v34]) := by
        intro j54_S2 H locs ls hj54_S2 hT hS hl
        refine ti_iast hx hb (aT0 hK) hT hS hv34 rfl rfl (iv_c (x := (13 : Int32)) (k := 13) (by decide)) (by decide) (one_s 13 rfl rfl (by decide) (by decide)) hj54_S2 (fun _ _ => trivial) dX10_beside_54 (fun H locs hT hS oq54 he54 hk54 => ?_)
        refine lv_aload_n hx hb dX10_beside_55 rfl (lv_at hl 0 rfl) ?_
        refine lv_iload_n hx hb dX10_beside_56 rfl (lv_at hl 1 rfl) ?_
        refine ti_calli (va_runV (As := [.int x1]) (rest := []) ⟨hx, hb, hml, hown, hts⟩ (t_X10_runs l hT ha0 (iv_w hx1_5p (by decide)) hU) (cwV 1 hts (good_V kw_939 kw_940 kw_941 kw_5 kw_942) rfl rfl rfl (by decide +kernel) ⟨by rw [hR]; decide, by rw [hR]; decide⟩) (ti_preV hK hT ha0 rfl rfl) rfl rfl hl.1 rfl (lv_room (Nat.le_of_ble_eq_true rfl)) dX10_beside_57 ⟨Nat.zero_le _, Nat.zero_le _⟩) hS (pW_sub rfl) (fun v57 H locs hB hS _ hk57 => ?_)
        have hT := hB
        refine lv_istore (lv' := [(4, .int v57), (0, .ref a0), (1, .int x1), (2, .int x2), (3, .int v25)]) hx hb dX10_beside_60 hl (by decide) rfl (fun ls hl => ?_)
        refine lv_iload_n hx hb dX10_beside_62 rfl (lv_at hl 3 rfl) ?_
        refine lv_iconst (v := 2) hx hb dX10_beside_63 (by decide) ?_
        have J90 : ∀ (j90_S0 : Int32) (H : Heap) (locs : List Loc) (ls : Array Slot), iv j90_S0 (-2147483648) 2147483647 → TI D vwCl (tysOf c0) (RTg (νt ν)) Y H → va_S (pW Y [10, 29, 30, 41, 42, 43]) s.heap H locs → lv_has ls 6 [(0, .ref a0), (1, .int x1), (2, .int x2), (3, .int v25), (4, .int v57)] → W p l e R s m ([.ref a0, .int x1, .int x2] : List Value).toArray below meth c H locs 0 0 Q (F0 m 90 ls [.int j90_S0]) := by
          intro j90_S0 H locs ls hj90_S0 hT hS hl
          refine lv_istore (lv' := [(5, .int j90_S0), (0, .ref a0), (1, .int x1), (2, .int x2), (3, .int v25), (4, .int v57)]) hx hb dX10_beside_90 hl (by decide) rfl (fun ls hl => ?_)
          refine lv_aload_n hx hb dX10_beside_92 rfl (lv_at hl 1 rfl) ?_
          refine ti_callv (va_runV (As := []) (rest := []) ⟨hx, hb, hml, hown, hts⟩ (t_X10_wakes l hT ha0 rfl rfl hU) (cwV 0 hts (good_V kw_824 kw_825 kw_826 kw_5 kw_827) rfl rfl rfl (by decide +kernel) ⟨by rw [hR]; decide, by rw [hR]; decide⟩) (ti_preV hK hT ha0 rfl rfl) rfl rfl hl.1 rfl (lv_room (Nat.le_of_ble_eq_true rfl)) dX10_beside_93 ⟨Nat.zero_le _, Nat.zero_le _⟩) hS (pW_sub rfl) (fun H locs hB hS _ hk93 => ?_)
          have hT := hB
          rw [nu_back hν3 hν5] at hT
          refine lv_iload hx hb dX10_beside_96 (lv_at hl 0 rfl) ?_
          exact ret _ _ _ _ _ dX10_beside_98 (hT) hS
        refine lv_icmp_ge (tgt := 74) hx hb dX10_beside_64 (by decide) (fun c64 => ?_) (fun c64 => ?_)
        · skip
          have kl2 : (2 : Int32).toInt = 2 := by decide
          have f64 := i_le c64
          have hx2_64r : iv x2 2 4 := iv_ler (iv_c (x := (2 : Int32)) (k := 2) (by decide)) hx2_17p c64 (by decide)
          refine lv_iload_n hx hb dX10_beside_74 rfl (lv_at hl 3 rfl) ?_
          refine lv_iconst (v := 2) hx hb dX10_beside_75 (by decide) ?_
          refine lv_icmp_ne (tgt := 84) hx hb dX10_beside_76 (by decide) (fun c76 => ?_) (fun c76 => ?_)
          · skip
            have f76 := i_ne c76
            have hx2_76l : iv x2 3 4 := iv_nel hx2_64r (iv_c (x := (2 : Int32)) (k := 2) (by decide)) c76 (by decide)
            refine lv_aload_n hx hb dX10_beside_84 rfl (lv_at hl 1 rfl) ?_
            refine ti_calli (va_runV (As := []) (rest := []) ⟨hx, hb, hml, hown, hts⟩ (t_X10_goods l hT ha0 hU) (cwV 0 hts (good_V kw_1202 kw_1203 kw_1204 kw_5 kw_1205) rfl rfl rfl (by decide +kernel) ⟨by rw [hR]; decide, by rw [hR]; decide⟩) (ti_preV hK hT ha0 rfl rfl) rfl rfl hl.1 rfl (lv_room (Nat.le_of_ble_eq_true rfl)) dX10_beside_85 ⟨Nat.zero_le _, Nat.zero_le _⟩) hS (pW_sub rfl) (fun v85 H1 locs hB hS _ hk85 => ?_)
            have hH := hB
            rw [hH] at hS ⊢
            refine lv_iload_n hx hb dX10_beside_88 rfl (lv_at hl 4 rfl) ?_
            refine lv_isub hx hb dX10_beside_89 ?_
            refine lv_topi (fun v89 e89 => ?_)
            have hv89 : iv v89 (-2147483648) 2147483647 := iv_top _
            exact J90 v89 _ _ _  (iv_w hv89 (by decide)) hT hS (lv_sub hl [1, 2, 3, 4, 0] rfl)
          · skip
            have f76 := i_eq c76
            have hx2_76l : iv x2 2 2 := iv_eql hx2_64r (iv_c (x := (2 : Int32)) (k := 2) (by decide)) c76 (by decide)
            refine lv_iload hx hb dX10_beside_79 (lv_at hl 0 rfl) ?_
            refine lv_goto (tgt := 90) hx hb dX10_beside_81 (by decide) ?_
            exact J90 v57 _ _ _  (iv_w (iv_top v57) (by decide)) hT hS (lv_sub hl [1, 2, 3, 4, 0] rfl)
        · skip
          have kl2 : (2 : Int32).toInt = 2 := by decide
          have f64 := i_nle c64
          have hx2_64l : iv x2 0 1 := iv_ltl hx2_17p (iv_c (x := (2 : Int32)) (k := 2) (by decide)) (Int32.not_le.mp c64) (by decide)
          refine lv_aload_n hx hb dX10_beside_67 rfl (lv_at hl 1 rfl) ?_
          refine ti_calli (va_runV (As := []) (rest := []) ⟨hx, hb, hml, hown, hts⟩ (t_X10_spreadOf l hT ha0 hU) (cwV 0 hts (good_V kw_1185 kw_1186 kw_1187 kw_5 kw_1188) rfl rfl rfl (by decide +kernel) ⟨by rw [hR]; decide, by rw [hR]; decide⟩) (ti_preV hK hT ha0 rfl rfl) rfl rfl hl.1 rfl (lv_room (Nat.le_of_ble_eq_true rfl)) dX10_beside_68 ⟨Nat.zero_le _, Nat.zero_le _⟩) hS (pW_sub rfl) (fun v68 H1 locs hB hS _ hk68 => ?_)
          have hH := hB
          rw [hH] at hS ⊢
          refine lv_goto (tgt := 90) hx hb dX10_beside_71 (by decide) ?_
          exact J90 v68 _ _ _  (iv_w (iv_top v68) (by decide)) hT hS (lv_sub hl [1, 2, 3, 4, 0] rfl)
      have J49 : ∀  (H : Heap) (locs : List Loc) (ls : Array Slot), TI D vwCl (tysOf c0) (RTg (νt ν)) Y H → va_S (pW Y [10, 29, 30, 41, 42, 43]) s.heap H locs → lv_has ls 6 [(0, .ref a0), (1, .int x1), (2, .int x2), (3, .int v25)] → W p l e R s m ([.ref a0, .int x1, .int x2] : List Value).toArray below meth c H locs 0 0 Q (F0 m 49 ls [.int (13 : Int32), .ref v34]) := by
        intro  H locs ls  hT hS hl
        refine lv_iconst (v := 1) hx hb dX10_beside_49 (by decide) ?_
        refine lv_goto (tgt := 54) hx hb dX10_beside_50 (by decide) ?_
        exact J54 (1 : Int32) _ _ _  (iv_w (iv_c (x := (1 : Int32)) (k := 1) (by decide)) (by decide)) hT hS (lv_sub hl [0, 1, 2, 3] rfl)
      refine lv_icmp_eq (tgt := 49) hx hb dX10_beside_41 (by decide) (fun c41 => ?_) (fun c41 => ?_)
      · skip
        have kl1 : (1 : Int32).toInt = 1 := by decide
        have f41 := i_eq c41
        have hx2_41l : iv x2 1 1 := iv_eql hx2_17p (iv_c (x := (1 : Int32)) (k := 1) (by decide)) c41 (by decide)
        exact J49  _ _ _   hT hS (lv_sub hl [1, 2, 3, 0] rfl)
      · skip
        have kl1 : (1 : Int32).toInt = 1 := by decide
        have f41 := i_ne c41
        refine lv_iload_n hx hb dX10_beside_44 rfl (lv_at hl 3 rfl) ?_
        refine lv_iconst (v := 4) hx hb dX10_beside_45 (by decide) ?_
        refine lv_icmp_ne (tgt := 53) hx hb dX10_beside_46 (by decide) (fun c46 => ?_) (fun c46 => ?_)
        · skip
          have kl4 : (4 : Int32).toInt = 4 := by decide
          have f46 := i_ne c46
          have hx2_46l : iv x2 0 3 := iv_nel hx2_17p (iv_c (x := (4 : Int32)) (k := 4) (by decide)) c46 (by decide)
          refine lv_iconst (v := 0) hx hb dX10_beside_53 (by decide) ?_
          exact J54 (0 : Int32) _ _ _  (iv_w (iv_c (x := (0 : Int32)) (k := 0) (by decide)) (by decide)) hT hS (lv_sub hl [1, 2, 3, 0] rfl)
        · skip
          have kl4 : (4 : Int32).toInt = 4 := by decide
          have f46 := i_eq c46
          have hx2_46l : iv x2 4 4 := iv_eql hx2_17p (iv_c (x := (4 : Int32)) (k := 4) (by decide)) c46 (by decide)
          exact J49  _ _ _   hT hS (lv_sub hl [1, 2, 3, 0] rfl)
    · skip
      have f17 := i_eq c17
      have hv14_17l : iv v14 0 0 := iv_eql hv14 (iv_c (x := (0 : Int32)) (k := 0) (by decide)) c17 (by decide)
      exact J20  _ _ _   hT hS (lv_sub hl [0, 1, 2] rfl)
set_option maxHeartbeats 4000000 in
set_option maxRecDepth 100000 in
theorem t_X10_law (l : Launch) {D : va_G} {c0 : Nat → ClassId} {Y : Nat → Option Nat} {ν : Nat → Nat} {H : Heap} (hT : TI D vwCl (tysOf c0) (RTg ν) Y H) {a0 : Nat} (ha0 : Y a0 = some 10) {x1 : Int32} (hx1 : iv x1 (-2147483648) 2147483647) {x2 : Int32} (hx2 : iv x2 (-2147483648) 2147483647) {x3 : Int32} (hx3 : iv x3 (-2147483648) 2147483647) {x4 : Int32} (hx4 : iv x4 0 1) (hU : uq Y) : Met l yX10_law (wz yX10_law cX10_law 5 (some .int)) { frames := 1, cells := 0, slots := 0, locals := 25 } (TP D vwCl (tysOf c0) H [.ref a0, .int x1, .int x2, .int x3, .int x4]) (TQi (fun x H' => TI D vwCl (tysOf c0) (RTg ν) Y H' ∧ iv x (-2) 0) Y [30]) 0 0 (pW Y [30]) := by
  refine Met.ofW (cc := cX10_law) (maxL := 5) (ret := (some .int)) (by decide) rfl ?_
  intro p e s m args below meth c s₁ B hml hv
  obtain ⟨rfl, rfl, hK⟩ := hv
  have hx := B.exec
  have hb := B.bytes
  have hr := B.returns
  have hts : ∀ w ∈ wq, w.before _ s = true := fun w h => atoms_spec (ws := wz yX10_law cX10_law 5 (some .int)) B.pre w (List.mem_cons_of_mem _ h)
  have hown : s.vm.findClass RX10 = some m.cls := findClass_of_methodNamed B.named
  have hlocks := B.notSynchronized
  obtain ⟨R, hR⟩ : ∃ R : Room, R = ({ frames := 1, cells := 0, slots := 0, locals := 25 } : Room) := ⟨_, rfl⟩
  rw [show (headSpec (wz yX10_law cX10_law 5 (some .int)) { frames := 1, cells := 0, slots := 0, locals := 25 }).room = R from hR.symm]
  refine ti_mi hx hb hr hlocks (fun Q ret => ?_)
  have hl := lv_entry [.ref a0, .int x1, .int x2, .int x3, .int x4] (n := 5) (Nat.le_of_ble_eq_true rfl)
  rw [lg_entry_eq]
  generalize (lg_sl [.ref a0, .int x1, .int x2, .int x3, .int x4] ++ List.replicate (5 - (lg_sl [.ref a0, .int x1, .int x2, .int x3, .int x4]).length) Slot.unset).toArray = ls at hl ⊢
  have hl : lv_has ls 5 [(0, .ref a0), (1, .int x1), (2, .int x2), (3, .int x3), (4, .int x4)] := hl
  refine ti_gen (P := fun H => TI D vwCl (tysOf c0) (RTg ν) Y H) (Y := Y) (ws := [30]) hT (fun H locs hT hS => ?_)
  refine lv_aload_n hx hb dX10_law_0 rfl (lv_at hl 0 rfl) ?_
  refine ti_getr hx hb hts inlX10 hown hK hT ha0 rfl rfl rfl 1 (by decide) (hts _ kw_130) (fun _ h9 => h9) rfl dX10_law_1 (fun v1 hv1 hm1 => ?_)
  refine lv_iconst (v := 1) hx hb dX10_law_4 (by decide) ?_
  refine ti_iald (lo := (-2147483648)) (hi := 100000) hx hb (aT0 hK) hT hv1 rfl (iv_c (x := (1 : Int32)) (k := 1) (by decide)) (by decide) (one_j 1 rfl rfl (by decide) (by decide)) dX10_law_5 (fun v5 hv5 hm5 => ?_)
  refine lv_if_eq (tgt := 47) hx hb dX10_law_6 (by decide) (fun c6 => ?_) (fun c6 => ?_)
  · skip
    have kl0 : (0 : Int32).toInt = 0 := by decide
    have f6 := i_eq c6
    have hv5_6l : iv v5 0 0 := iv_eql hv5 (iv_c (x := (0 : Int32)) (k := 0) (by decide)) c6 (by decide)
    refine lv_bipush (v := (-2)) hx hb dX10_law_47 (by decide) ?_
    exact ret _ _ _ _ _ dX10_law_49 (⟨hT, iv_w (iv_c (x := (-2 : Int32)) (k := (-2)) (by decide)) (by decide)⟩) hS
  · skip
    have kl0 : (0 : Int32).toInt = 0 := by decide
    have f6 := i_ne c6
    refine lv_iload_n hx hb dX10_law_9 rfl (lv_at hl 1 rfl) ?_
    refine lv_i2l hx hb dX10_law_10 rfl ?_
    refine lv_topl (fun v10 e10 => ?_)
    have hv10 : jv v10 (-2147483648) 2147483647 := by rw [e10]; exact jv_i hx1
    have t10 : v10.toInt = x1.toInt := by rw [e10]; exact jv_e _
    refine lv_lconst (v := 0) hx hb dX10_law_11 (by decide) ?_
    have kj0 : (0 : Int64).toInt = 0 := by decide
    refine lv_ldc2 (v := 30) hx hb hown (hts _ kw_524) dX10_law_12 ?_
    have kj30 : (30 : Int64).toInt = 30 := by decide
    refine ti_calli (va_runS (As := [.long v10, .long (0 : Int64), .long (30 : Int64)]) (rest := []) ⟨hx, hb, hml, hown, hts⟩ (t_X10_in l hT (jv_w hv10 (by decide)) (jv_w (jv_c (x := (0 : Int64)) (k := 0) (by decide)) (by decide)) (jv_w (jv_c (x := (30 : Int64)) (k := 30) (by decide)) (by decide))) (cwS 3 hts (good_S kw_181 kw_182 kw_5 kw_183) rfl rfl rfl (by decide +kernel) ⟨by rw [hR]; decide, by rw [hR]; decide⟩) (ti_preS hK) rfl rfl hl.1 rfl (lv_room (Nat.le_of_ble_eq_true rfl)) dX10_law_15 ⟨Nat.zero_le _, Nat.zero_le _⟩) hS (pW_sub rfl) (fun v15 H1 locs hB hS _ hk15 => ?_)
    obtain ⟨hH, hv15, hp15⟩ := hB
    rw [hH] at hS ⊢
    refine lv_if_eq (tgt := 47) hx hb dX10_law_18 (by decide) (fun c18 => ?_) (fun c18 => ?_)
    · skip
      have f18 := i_eq c18
      have hv15_18l : iv v15 0 0 := iv_eql hv15 (iv_c (x := (0 : Int32)) (k := 0) (by decide)) c18 (by decide)
      refine lv_bipush (v := (-2)) hx hb dX10_law_47 (by decide) ?_
      exact ret _ _ _ _ _ dX10_law_49 (⟨hT, iv_w (iv_c (x := (-2 : Int32)) (k := (-2)) (by decide)) (by decide)⟩) hS
    · skip
      have f18 := i_ne c18
      have hv15_18l : iv v15 1 1 := iv_nel hv15 (iv_c (x := (0 : Int32)) (k := 0) (by decide)) c18 (by decide)
      have hv10_18p : jv v10 0 30 := by have b0a := (hv10).1; have b0b := (hv10).2; have b1a := ((jv_c (x := (0 : Int64)) (k := 0) (by decide))).1; have b1b := ((jv_c (x := (0 : Int64)) (k := 0) (by decide))).2; have b2a := ((jv_c (x := (30 : Int64)) (k := 30) (by decide))).1; have b2b := ((jv_c (x := (30 : Int64)) (k := 30) (by decide))).2; exact ⟨by omega, by omega⟩
      have hx1_18p : iv x1 0 30 := by have := t10; have b0a := (hv10_18p).1; have b0b := (hv10_18p).2; have b1a := (hx1).1; have b1b := (hx1).2; exact ⟨by omega, by omega⟩
      refine lv_iload_n hx hb dX10_law_21 rfl (lv_at hl 2 rfl) ?_
      refine lv_i2l hx hb dX10_law_22 rfl ?_
      refine lv_topl (fun v22 e22 => ?_)
      have hv22 : jv v22 (-2147483648) 2147483647 := by rw [e22]; exact jv_i hx2
      have t22 : v22.toInt = x2.toInt := by rw [e22]; exact jv_e _
      refine lv_ldc2 (v := 2) hx hb hown (hts _ kw_1218) dX10_law_23 ?_
      have kj2 : (2 : Int64).toInt = 2 := by decide
      refine lv_ldc2 (v := 4) hx hb hown (hts _ kw_1027) dX10_law_26 ?_
      have kj4 : (4 : Int64).toInt = 4 := by decide
      refine ti_calli (va_runS (As := [.long v22, .long (2 : Int64), .long (4 : Int64)]) (rest := []) ⟨hx, hb, hml, hown, hts⟩ (t_X10_in l hT (jv_w hv22 (by decide)) (jv_w (jv_c (x := (2 : Int64)) (k := 2) (by decide)) (by decide)) (jv_w (jv_c (x := (4 : Int64)) (k := 4) (by decide)) (by decide))) (cwS 3 hts (good_S kw_181 kw_182 kw_5 kw_183) rfl rfl rfl (by decide +kernel) ⟨by rw [hR]; decide, by rw [hR]; decide⟩) (ti_preS hK) rfl rfl hl.1 rfl (lv_room (Nat.le_of_ble_eq_true rfl)) dX10_law_29 ⟨Nat.zero_le _, Nat.zero_le _⟩) hS (pW_sub rfl) (fun v29 H1 locs hB hS _ hk29 => ?_)
      obtain ⟨hH, hv29, hp29⟩ := hB
      rw [hH] at hS ⊢
      refine lv_if_eq (tgt := 47) hx hb dX10_law_32 (by decide) (fun c32 => ?_) (fun c32 => ?_)
      · skip
        have f32 := i_eq c32
        have hv29_32l : iv v29 0 0 := iv_eql hv29 (iv_c (x := (0 : Int32)) (k := 0) (by decide)) c32 (by decide)
        refine lv_bipush (v := (-2)) hx hb dX10_law_47 (by decide) ?_
        exact ret _ _ _ _ _ dX10_law_49 (⟨hT, iv_w (iv_c (x := (-2 : Int32)) (k := (-2)) (by decide)) (by decide)⟩) hS
      · skip
        have f32 := i_ne c32
        have hv29_32l : iv v29 1 1 := iv_nel hv29 (iv_c (x := (0 : Int32)) (k := 0) (by decide)) c32 (by decide)
        have hv22_32p : jv v22 2 4 := by have b0a := (hv22).1; have b0b := (hv22).2; have b1a := ((jv_c (x := (2 : Int64)) (k := 2) (by decide))).1; have b1b := ((jv_c (x := (2 : Int64)) (k := 2) (by decide))).2; have b2a := ((jv_c (x := (4 : Int64)) (k := 4) (by decide))).1; have b2b := ((jv_c (x := (4 : Int64)) (k := 4) (by decide))).2; exact ⟨by omega, by omega⟩
        have hx2_32p : iv x2 2 4 := by have := t22; have b0a := (hv22_32p).1; have b0b := (hv22_32p).2; have b1a := (hx2).1; have b1b := (hx2).2; exact ⟨by omega, by omega⟩
        refine lv_iload_n hx hb dX10_law_35 rfl (lv_at hl 3 rfl) ?_
        refine lv_i2l hx hb dX10_law_36 rfl ?_
        refine lv_topl (fun v36 e36 => ?_)
        have hv36 : jv v36 (-2147483648) 2147483647 := by rw [e36]; exact jv_i hx3
        have t36 : v36.toInt = x3.toInt := by rw [e36]; exact jv_e _
        refine lv_lconst (v := 0) hx hb dX10_law_37 (by decide) ?_
        refine lv_ldc2 (v := 2) hx hb hown (hts _ kw_1218) dX10_law_38 ?_
        refine ti_calli (va_runS (As := [.long v36, .long (0 : Int64), .long (2 : Int64)]) (rest := []) ⟨hx, hb, hml, hown, hts⟩ (t_X10_in l hT (jv_w hv36 (by decide)) (jv_w (jv_c (x := (0 : Int64)) (k := 0) (by decide)) (by decide)) (jv_w (jv_c (x := (2 : Int64)) (k := 2) (by decide)) (by decide))) (cwS 3 hts (good_S kw_181 kw_182 kw_5 kw_183) rfl rfl rfl (by decide +kernel) ⟨by rw [hR]; decide, by rw [hR]; decide⟩) (ti_preS hK) rfl rfl hl.1 rfl (lv_room (Nat.le_of_ble_eq_true rfl)) dX10_law_41 ⟨Nat.zero_le _, Nat.zero_le _⟩) hS (pW_sub rfl) (fun v41 H1 locs hB hS _ hk41 => ?_)
        obtain ⟨hH, hv41, hp41⟩ := hB
        rw [hH] at hS ⊢
        refine lv_if_ne (tgt := 50) hx hb dX10_law_44 (by decide) (fun c44 => ?_) (fun c44 => ?_)
        · skip
          have f44 := i_ne c44
          have hv41_44l : iv v41 1 1 := iv_nel hv41 (iv_c (x := (0 : Int32)) (k := 0) (by decide)) c44 (by decide)
          have hv36_44p : jv v36 0 2 := by have b0a := (hv36).1; have b0b := (hv36).2; have b1a := ((jv_c (x := (0 : Int64)) (k := 0) (by decide))).1; have b1b := ((jv_c (x := (0 : Int64)) (k := 0) (by decide))).2; have b2a := ((jv_c (x := (2 : Int64)) (k := 2) (by decide))).1; have b2b := ((jv_c (x := (2 : Int64)) (k := 2) (by decide))).2; exact ⟨by omega, by omega⟩
          have hx3_44p : iv x3 0 2 := by have := t36; have b0a := (hv36_44p).1; have b0b := (hv36_44p).2; have b1a := (hx3).1; have b1b := (hx3).2; exact ⟨by omega, by omega⟩
          refine lv_aload_n hx hb dX10_law_50 rfl (lv_at hl 0 rfl) ?_
          refine ti_getE (ci := 10) (v := .ref v1) hx hb hts inlX10 hown hK hm1 rfl (by decide) (hts _ kw_130) (fun _ h9 => h9) dX10_law_51 ?_
          refine lv_iconst (v := 2) hx hb dX10_law_54 (by decide) ?_
          refine lv_iload_n hx hb dX10_law_55 rfl (lv_at hl 1 rfl) ?_
          refine ti_iast hx hb (aT0 hK) hT hS hv1 rfl rfl (iv_c (x := (2 : Int32)) (k := 2) (by decide)) (by decide) (one_s 2 rfl rfl (by decide) (by decide)) hx1_18p (fun _ _ => trivial) dX10_law_56 (fun H locs hT hS oq56 he56 hk56 => ?_)
          refine lv_aload_n hx hb dX10_law_57 rfl (lv_at hl 0 rfl) ?_
          refine ti_getE (ci := 10) (v := .ref v1) hx hb hts inlX10 hown hK (hm1.kept (oq56 _ (ne_r ha0 hv1 rfl))) rfl (by decide) (hts _ kw_130) (fun _ h9 => h9) dX10_law_58 ?_
          refine lv_iconst (v := 3) hx hb dX10_law_61 (by decide) ?_
          refine lv_iload_n hx hb dX10_law_62 rfl (lv_at hl 2 rfl) ?_
          refine ti_iast hx hb (aT0 hK) hT hS hv1 rfl rfl (iv_c (x := (3 : Int32)) (k := 3) (by decide)) (by decide) (one_s 3 rfl rfl (by decide) (by decide)) hx2_32p (fun _ _ => trivial) dX10_law_63 (fun H locs hT hS oq63 he63 hk63 => ?_)
          refine lv_aload_n hx hb dX10_law_64 rfl (lv_at hl 0 rfl) ?_
          refine ti_getE (ci := 10) (v := .ref v1) hx hb hts inlX10 hown hK ((hm1.kept (oq56 _ (ne_r ha0 hv1 rfl))).kept (oq63 _ (ne_r ha0 hv1 rfl))) rfl (by decide) (hts _ kw_130) (fun _ h9 => h9) dX10_law_65 ?_
          refine lv_iconst (v := 4) hx hb dX10_law_68 (by decide) ?_
          refine lv_iload_n hx hb dX10_law_69 rfl (lv_at hl 3 rfl) ?_
          refine ti_iast hx hb (aT0 hK) hT hS hv1 rfl rfl (iv_c (x := (4 : Int32)) (k := 4) (by decide)) (by decide) (one_s 4 rfl rfl (by decide) (by decide)) hx3_44p (fun _ _ => trivial) dX10_law_70 (fun H locs hT hS oq70 he70 hk70 => ?_)
          refine lv_aload_n hx hb dX10_law_71 rfl (lv_at hl 0 rfl) ?_
          refine ti_getE (ci := 10) (v := .ref v1) hx hb hts inlX10 hown hK (((hm1.kept (oq56 _ (ne_r ha0 hv1 rfl))).kept (oq63 _ (ne_r ha0 hv1 rfl))).kept (oq70 _ (ne_r ha0 hv1 rfl))) rfl (by decide) (hts _ kw_130) (fun _ h9 => h9) dX10_law_72 ?_
          refine lv_iconst (v := 5) hx hb dX10_law_75 (by decide) ?_
          refine lv_iload hx hb dX10_law_76 (lv_at hl 4 rfl) ?_
          have J86 : ∀ (j86_S2 : Int32) (H : Heap) (locs : List Loc) (ls : Array Slot), iv j86_S2 0 1 → TI D vwCl (tysOf c0) (RTg ν) Y H → va_S (pW Y [30]) s.heap H locs → lv_has ls 5 [(0, .ref a0), (1, .int x1), (2, .int x2), (3, .int x3), (4, .int x4)] → W p l e R s m ([.ref a0, .int x1, .int x2, .int x3, .int x4] : List Value).toArray below meth c H locs 0 0 Q (F0 m 86 ls [.int j86_S2, .int (5 : Int32), .ref v1]) := by
            intro j86_S2 H locs ls hj86_S2 hT hS hl
            refine ti_iast hx hb (aT0 hK) hT hS hv1 rfl rfl (iv_c (x := (5 : Int32)) (k := 5) (by decide)) (by decide) (one_s 5 rfl rfl (by decide) (by decide)) hj86_S2 (fun _ _ => trivial) dX10_law_86 (fun H locs hT hS oq86 he86 hk86 => ?_)
            refine lv_iconst (v := 0) hx hb dX10_law_87 (by decide) ?_
            exact ret _ _ _ _ _ dX10_law_88 (⟨hT, iv_w (iv_c (x := (0 : Int32)) (k := 0) (by decide)) (by decide)⟩) hS
          refine lv_if_eq (tgt := 85) hx hb dX10_law_78 (by decide) (fun c78 => ?_) (fun c78 => ?_)
          · skip
            have f78 := i_eq c78
            have hx4_78l : iv x4 0 0 := iv_eql hx4 (iv_c (x := (0 : Int32)) (k := 0) (by decide)) c78 (by decide)
            refine lv_iconst (v := 0) hx hb dX10_law_85 (by decide) ?_
            exact J86 (0 : Int32) _ _ _  (iv_w (iv_c (x := (0 : Int32)) (k := 0) (by decide)) (by decide)) hT hS (lv_sub hl [0, 1, 2, 3, 4] rfl)
          · skip
            have f78 := i_ne c78
            have hx4_78l : iv x4 1 1 := iv_nel hx4 (iv_c (x := (0 : Int32)) (k := 0) (by decide)) c78 (by decide)
            refine lv_iconst (v := 1) hx hb dX10_law_81 (by decide) ?_
            refine lv_goto (tgt := 86) hx hb dX10_law_82 (by decide) ?_
            exact J86 (1 : Int32) _ _ _  (iv_w (iv_c (x := (1 : Int32)) (k := 1) (by decide)) (by decide)) hT hS (lv_sub hl [0, 1, 2, 3, 4] rfl)
        · skip
          have f44 := i_eq c44
          have hv41_44l : iv v41 0 0 := iv_eql hv41 (iv_c (x := (0 : Int32)) (k := 0) (by decide)) c44 (by decide)
          refine lv_bipush (v := (-2)) hx hb dX10_law_47 (by decide) ?_
          exact ret _ _ _ _ _ dX10_law_49 (⟨hT, iv_w (iv_c (x := (-2 : Int32)) (k := (-2)) (by decide)) (by decide)⟩) hS
set_option maxHeartbeats 4000000 in
set_option maxRecDepth 100000 in
theorem t_X10_laws (l : Launch) {D : va_G} {c0 : Nat → ClassId} {Y : Nat → Option Nat} {ν : Nat → Nat} {H : Heap} (hT : TI D vwCl (tysOf c0) (RTg ν) Y H) {a0 : Nat} (ha0 : Y a0 = some 10) {x1 : Int32} (hx1 : iv x1 (-2147483648) 2147483647) (hν3 : ν 3 = 0) (hν5 : ν 5 = 0) (hU : uq Y) : Met l yX10_laws (wz yX10_laws cX10_laws 6 (some .int)) { frames := 10, cells := 0, slots := 0, locals := 287 } (TP D vwCl (tysOf c0) H [.ref a0, .int x1]) (TQi (fun x H' => TI D vwCl (tysOf c0) (RTg ν) Y H' ∧ iv x (-2) 4) Y [10, 29, 30, 41, 42, 43]) 0 0 (pW Y [10, 29, 30, 41, 42, 43]) := by
  refine Met.ofW (cc := cX10_laws) (maxL := 6) (ret := (some .int)) (by decide) rfl ?_
  intro p e s m args below meth c s₁ B hml hv
  obtain ⟨rfl, rfl, hK⟩ := hv
  have hx := B.exec
  have hb := B.bytes
  have hr := B.returns
  have hts : ∀ w ∈ wq, w.before _ s = true := fun w h => atoms_spec (ws := wz yX10_laws cX10_laws 6 (some .int)) B.pre w (List.mem_cons_of_mem _ h)
  have hown : s.vm.findClass RX10 = some m.cls := findClass_of_methodNamed B.named
  have hlocks := B.notSynchronized
  obtain ⟨R, hR⟩ : ∃ R : Room, R = ({ frames := 10, cells := 0, slots := 0, locals := 287 } : Room) := ⟨_, rfl⟩
  rw [show (headSpec (wz yX10_laws cX10_laws 6 (some .int)) { frames := 10, cells := 0, slots := 0, locals := 287 }).room = R from hR.symm]
  refine ti_mi hx hb hr hlocks (fun Q ret => ?_)
  have hl := lv_entry [.ref a0, .int x1] (n := 6) (Nat.le_of_ble_eq_true rfl)
  rw [lg_entry_eq]
  generalize (lg_sl [.ref a0, .int x1] ++ List.replicate (6 - (lg_sl [.ref a0, .int x1]).length) Slot.unset).toArray = ls at hl ⊢
  have hl : lv_has ls 6 [(0, .ref a0), (1, .int x1)] := hl
  refine ti_gen (P := fun H => TI D vwCl (tysOf c0) (RTg ν) Y H) (Y := Y) (ws := [10, 29, 30, 41, 42, 43]) hT (fun H locs hT hS => ?_)
  refine lv_aload_n hx hb dX10_laws_0 rfl (lv_at hl 0 rfl) ?_
  refine lv_iload_n hx hb dX10_laws_1 rfl (lv_at hl 1 rfl) ?_
  refine ti_calli (va_runV (As := [.int x1]) (rest := []) ⟨hx, hb, hml, hown, hts⟩ (t_X10_isRun l hT ha0 (iv_w hx1 (by decide)) hU) (cwV 1 hts (good_V kw_935 kw_936 kw_937 kw_5 kw_938) rfl rfl rfl (by decide +kernel) ⟨by rw [hR]; decide, by rw [hR]; decide⟩) (ti_preV hK hT ha0 rfl rfl) rfl rfl hl.1 rfl (lv_room (Nat.le_of_ble_eq_true rfl)) dX10_laws_2 ⟨Nat.zero_le _, Nat.zero_le _⟩) hS (pW_sub rfl) (fun v2 H1 locs hB hS _ hk2 => ?_)
  obtain ⟨hH, hv2, hp2⟩ := hB
  rw [hH] at hS ⊢
  refine lv_if_ne (tgt := 11) hx hb dX10_laws_5 (by decide) (fun c5 => ?_) (fun c5 => ?_)
  · skip
    have kl0 : (0 : Int32).toInt = 0 := by decide
    have f5 := i_ne c5
    have hv2_5l : iv v2 1 1 := iv_nel hv2 (iv_c (x := (0 : Int32)) (k := 0) (by decide)) c5 (by decide)
    have hx1_5p : iv x1 1 30 := by have b0a := (hx1).1; have b0b := (hx1).2; exact ⟨by omega, by omega⟩
    refine lv_iconst (v := (-1)) hx hb dX10_laws_11 (by decide) ?_
    refine lv_istore_n (lv' := [(2, .int (-1 : Int32)), (0, .ref a0), (1, .int x1)]) hx hb dX10_laws_12 rfl hl (by decide) rfl (fun ls hl => ?_)
    refine lv_iconst (v := 0) hx hb dX10_laws_13 (by decide) ?_
    refine lv_istore_n (lv' := [(3, .int (0 : Int32)), (2, .int (-1 : Int32)), (0, .ref a0), (1, .int x1)]) hx hb dX10_laws_14 rfl hl (by decide) rfl (fun ls hl => ?_)
    refine lv_iconst (v := 2) hx hb dX10_laws_15 (by decide) ?_
    have J18 : ∀ (n : Nat) (j18_L2 : Int32) (j18_L3 : Int32) (j18_L4 : Int32) (H : Heap) (locs : List Loc) (ls : Array Slot), (5 - j18_L4.toInt).toNat < n → iv j18_L2 (-1) 4 → iv j18_L3 (-2147483648) 2147483647 → iv j18_L4 2 5 → TI D vwCl (tysOf c0) (RTg ν) Y H → va_S (pW Y [10, 29, 30, 41, 42, 43]) s.heap H locs → lv_has ls 6 [(0, .ref a0), (1, .int x1), (2, .int j18_L2), (3, .int j18_L3), (4, .int j18_L4)] → W p l e R s m ([.ref a0, .int x1] : List Value).toArray below meth c H locs 0 0 Q (F0 m 18 ls []) := by
      intro n
      induction n with
      | zero => intro j18_L2 j18_L3 j18_L4 H locs ls hms; exact absurd hms (Nat.not_lt_zero _)
      | succ n ih18 =>
        intro j18_L2 j18_L3 j18_L4 H locs ls hms18 hj18_L2 hj18_L3 hj18_L4 hT hS hl
        refine lv_iload hx hb dX10_laws_18 (lv_at hl 4 rfl) ?_
        refine lv_iconst (v := 5) hx hb dX10_laws_20 (by decide) ?_
        refine lv_icmp_ge (tgt := 78) hx hb dX10_laws_21 (by decide) (fun c21 => ?_) (fun c21 => ?_)
        · skip
          have kl5 : (5 : Int32).toInt = 5 := by decide
          have f21 := i_le c21
          have hj18_L4_21r : iv j18_L4 5 5 := iv_ler (iv_c (x := (5 : Int32)) (k := 5) (by decide)) hj18_L4 c21 (by decide)
          refine lv_iload_n hx hb dX10_laws_78 rfl (lv_at hl 2 rfl) ?_
          exact ret _ _ _ _ _ dX10_laws_79 (⟨hT, iv_w hj18_L2 (by decide)⟩) hS
        · skip
          have kl5 : (5 : Int32).toInt = 5 := by decide
          have f21 := i_nle c21
          have hj18_L4_21l : iv j18_L4 2 4 := iv_ltl hj18_L4 (iv_c (x := (5 : Int32)) (k := 5) (by decide)) (Int32.not_le.mp c21) (by decide)
          refine lv_aload_n hx hb dX10_laws_24 rfl (lv_at hl 0 rfl) ?_
          refine ti_callv (va_runV (As := []) (rest := []) ⟨hx, hb, hml, hown, hts⟩ (t_X10_thinks l hT ha0 hν3 hν5 hU) (cwV 0 hts (good_V kw_819 kw_820 kw_821 kw_5 kw_822) rfl rfl rfl (by decide +kernel) ⟨by rw [hR]; decide, by rw [hR]; decide⟩) (ti_preV hK hT ha0 rfl rfl) rfl rfl hl.1 rfl (lv_room (Nat.le_of_ble_eq_true rfl)) dX10_laws_25 ⟨Nat.zero_le _, Nat.zero_le _⟩) hS (pW_sub rfl) (fun H locs hB hS _ hk25 => ?_)
          have hT := hB
          refine lv_aload_n hx hb dX10_laws_28 rfl (lv_at hl 0 rfl) ?_
          refine ti_getr hx hb hts inlX10 hown hK hT ha0 rfl rfl rfl 1 (by decide) (hts _ kw_130) (fun _ h9 => h9) rfl dX10_laws_29 (fun v29 hv29 hm29 => ?_)
          refine lv_iconst (v := 3) hx hb dX10_laws_32 (by decide) ?_
          refine lv_iload hx hb dX10_laws_33 (lv_at hl 4 rfl) ?_
          refine ti_iast hx hb (aT0 hK) hT hS hv29 rfl rfl (iv_c (x := (3 : Int32)) (k := 3) (by decide)) (by decide) (one_s 3 rfl rfl (by decide) (by decide)) hj18_L4_21l (fun _ _ => trivial) dX10_laws_35 (fun H locs hT hS oq35 he35 hk35 => ?_)
          refine lv_aload_n hx hb dX10_laws_36 rfl (lv_at hl 0 rfl) ?_
          refine lv_iload_n hx hb dX10_laws_37 rfl (lv_at hl 1 rfl) ?_
          refine ti_calli (va_runV (As := [.int x1]) (rest := []) ⟨hx, hb, hml, hown, hts⟩ (t_X10_runs l hT ha0 (iv_w hx1_5p (by decide)) hU) (cwV 1 hts (good_V kw_939 kw_940 kw_941 kw_5 kw_942) rfl rfl rfl (by decide +kernel) ⟨by rw [hR]; decide, by rw [hR]; decide⟩) (ti_preV hK hT ha0 rfl rfl) rfl rfl hl.1 rfl (lv_room (Nat.le_of_ble_eq_true rfl)) dX10_laws_38 ⟨Nat.zero_le _, Nat.zero_le _⟩) hS (pW_sub rfl) (fun v38 H locs hB hS _ hk38 => ?_)
          have hT := hB
          refine lv_pop hx hb dX10_laws_41 rfl ?_
          refine lv_aload_n hx hb dX10_laws_42 rfl (lv_at hl 0 rfl) ?_
          refine ti_calli (va_runV (As := []) (rest := []) ⟨hx, hb, hml, hown, hts⟩ (t_X10_spreadOf l hT ha0 hU) (cwV 0 hts (good_V kw_1185 kw_1186 kw_1187 kw_5 kw_1188) rfl rfl rfl (by decide +kernel) ⟨by rw [hR]; decide, by rw [hR]; decide⟩) (ti_preV hK hT ha0 rfl rfl) rfl rfl hl.1 rfl (lv_room (Nat.le_of_ble_eq_true rfl)) dX10_laws_43 ⟨Nat.zero_le _, Nat.zero_le _⟩) hS (pW_sub rfl) (fun v43 H1 locs hB hS _ hk43 => ?_)
          have hH := hB
          rw [hH] at hS ⊢
          refine lv_istore (lv' := [(5, .int v43), (0, .ref a0), (1, .int x1), (2, .int j18_L2), (3, .int j18_L3), (4, .int j18_L4)]) hx hb dX10_laws_46 hl (by decide) rfl (fun ls hl => ?_)
          refine lv_aload_n hx hb dX10_laws_48 rfl (lv_at hl 1 rfl) ?_
          refine ti_callv (va_runV (As := []) (rest := []) ⟨hx, hb, hml, hown, hts⟩ (t_X10_wakes l hT ha0 rfl rfl hU) (cwV 0 hts (good_V kw_824 kw_825 kw_826 kw_5 kw_827) rfl rfl rfl (by decide +kernel) ⟨by rw [hR]; decide, by rw [hR]; decide⟩) (ti_preV hK hT ha0 rfl rfl) rfl rfl hl.1 rfl (lv_room (Nat.le_of_ble_eq_true rfl)) dX10_laws_49 ⟨Nat.zero_le _, Nat.zero_le _⟩) hS (pW_sub rfl) (fun H locs hB hS _ hk49 => ?_)
          have hT := hB
          rw [nu_back hν3 hν5] at hT
          refine lv_iload_n hx hb dX10_laws_52 rfl (lv_at hl 3 rfl) ?_
          refine lv_iconst (v := (-1)) hx hb dX10_laws_53 (by decide) ?_
          have J72 : ∀ (j72_L2 : Int32) (j72_L3 : Int32) (H : Heap) (locs : List Loc) (ls : Array Slot), iv j72_L2 0 4 → iv j72_L3 (-2147483648) 2147483647 → TI D vwCl (tysOf c0) (RTg ν) Y H → va_S (pW Y [10, 29, 30, 41, 42, 43]) s.heap H locs → lv_has ls 6 [(0, .ref a0), (1, .int x1), (2, .int j72_L2), (3, .int j72_L3), (4, .int j18_L4), (5, .int v43)] → W p l e R s m ([.ref a0, .int x1] : List Value).toArray below meth c H locs 0 0 Q (F0 m 72 ls []) := by
            intro j72_L2 j72_L3 H locs ls hj72_L2 hj72_L3 hT hS hl
            obtain ⟨v72, e72⟩ : ∃ y : Int32, y = j18_L4 + 1 := ⟨_, rfl⟩
            have hv72 : iv v72 3 5 := by rw [e72]; exact iv_w (iv_add hj18_L4_21l (iv_c (x := (1 : Int32)) (k := 1) (by decide)) (by decide)) (by decide)
            have s72 : v72.toInt = j18_L4.toInt + 1 := by rw [e72, iv_addE hj18_L4_21l (iv_c (x := (1 : Int32)) (k := 1) (by decide)) (by decide)]; rfl
            refine lv_iinc (v := v72) (lv' := [(4, .int v72), (0, .ref a0), (1, .int x1), (2, .int j72_L2), (3, .int j72_L3), (5, .int v43)]) hx hb dX10_laws_72 hl (k := 4) rfl (by rw [e72]; rfl) (by decide) rfl (fun ls hl => ?_)
            refine lv_goto (tgt := 18) hx hb dX10_laws_75 (by decide) ?_
            exact ih18 j72_L2 j72_L3 v72 _ _ _ (ms_up hms18 (by have := s72; omega) (iv_w (c := 3) (d := 5) hv72 (by decide)).2) (iv_w hj72_L2 (by decide)) (iv_w hj72_L3 (by decide)) (iv_w hv72 (by decide)) hT hS (lv_sub hl [1, 2, 3, 4, 0] rfl)
          have J66 : ∀  (H : Heap) (locs : List Loc) (ls : Array Slot), TI D vwCl (tysOf c0) (RTg ν) Y H → va_S (pW Y [10, 29, 30, 41, 42, 43]) s.heap H locs → lv_has ls 6 [(0, .ref a0), (1, .int x1), (2, .int j18_L2), (3, .int j18_L3), (4, .int j18_L4), (5, .int v43)] → W p l e R s m ([.ref a0, .int x1] : List Value).toArray below meth c H locs 0 0 Q (F0 m 66 ls []) := by
            intro  H locs ls  hT hS hl
            refine lv_iload hx hb dX10_laws_66 (lv_at hl 4 rfl) ?_
            refine lv_istore_n (lv' := [(2, .int j18_L4), (0, .ref a0), (1, .int x1), (3, .int j18_L3), (4, .int j18_L4), (5, .int v43)]) hx hb dX10_laws_68 rfl hl (by decide) rfl (fun ls hl => ?_)
            refine lv_iload hx hb dX10_laws_69 (lv_at hl 5 rfl) ?_
            refine lv_istore_n (lv' := [(3, .int v43), (2, .int j18_L4), (0, .ref a0), (1, .int x1), (4, .int j18_L4), (5, .int v43)]) hx hb dX10_laws_71 rfl hl (by decide) rfl (fun ls hl => ?_)
            exact J72 j18_L4 v43 _ _ _  (iv_w hj18_L4_21l (by decide)) (iv_w (iv_top v43) (by decide)) hT hS (lv_sub hl [2, 3, 1, 0, 4, 5] rfl)
          refine lv_icmp_eq (tgt := 66) hx hb dX10_laws_54 (by decide) (fun c54 => ?_) (fun c54 => ?_)
          · skip
            have klm1 : (-1 : Int32).toInt = (-1) := by decide
            have f54 := i_eq c54
            have hj18_L2_54l : iv j18_L2 (-1) (-1) := iv_eql hj18_L2 (iv_c (x := (-1 : Int32)) (k := (-1)) (by decide)) c54 (by decide)
            exact J66  _ _ _   hT hS (lv_sub hl [1, 2, 3, 4, 5, 0] rfl)
          · skip
            have klm1 : (-1 : Int32).toInt = (-1) := by decide
            have f54 := i_ne c54
            have hj18_L2_54l : iv j18_L2 0 4 := iv_nel hj18_L2 (iv_c (x := (-1 : Int32)) (k := (-1)) (by decide)) c54 (by decide)
            refine lv_iload hx hb dX10_laws_57 (lv_at hl 0 rfl) ?_
            refine lv_iload_n hx hb dX10_laws_59 rfl (lv_at hl 4 rfl) ?_
            refine lv_icmp_lt (tgt := 66) hx hb dX10_laws_60 (by decide) (fun c60 => ?_) (fun c60 => ?_)
            · skip
              have f60 := i_lt c60
              have hv43_60l : iv v43 (-2147483648) 2147483646 := iv_ltl (iv_top v43) hj18_L3 c60 (by decide)
              have hj18_L3_60r : iv j18_L3 (-2147483647) 2147483647 := iv_ltr hv43_60l hj18_L3 c60 (by decide)
              exact J66  _ _ _   hT hS (lv_sub hl [1, 2, 3, 4, 5, 0] rfl)
            · skip
              have f60 := i_nlt c60
              refine lv_goto (tgt := 72) hx hb dX10_laws_63 (by decide) ?_
              exact J72 j18_L2 j18_L3 _ _ _  (iv_w hj18_L2_54l (by decide)) (iv_w hj18_L3 (by decide)) hT hS (lv_sub hl [1, 2, 3, 4, 5, 0] rfl)
    refine lv_istore (lv' := [(4, .int (2 : Int32)), (3, .int (0 : Int32)), (2, .int (-1 : Int32)), (0, .ref a0), (1, .int x1)]) hx hb dX10_laws_16 hl (by decide) rfl (fun ls hl => ?_)
    exact J18 _ (-1 : Int32) (0 : Int32) (2 : Int32) _ _ _ (Nat.lt_succ_self _) (iv_w (iv_c (x := (-1 : Int32)) (k := (-1)) (by decide)) (by decide)) (iv_w (iv_c (x := (0 : Int32)) (k := 0) (by decide)) (by decide)) (iv_w (iv_c (x := (2 : Int32)) (k := 2) (by decide)) (by decide)) hT hS (lv_sub hl [3, 4, 2, 1, 0] rfl)
  · skip
    have kl0 : (0 : Int32).toInt = 0 := by decide
    have f5 := i_eq c5
    have hv2_5l : iv v2 0 0 := iv_eql hv2 (iv_c (x := (0 : Int32)) (k := 0) (by decide)) c5 (by decide)
    refine lv_bipush (v := (-2)) hx hb dX10_laws_8 (by decide) ?_
    exact ret _ _ _ _ _ dX10_laws_10 (⟨hT, iv_w (iv_c (x := (-2 : Int32)) (k := (-2)) (by decide)) (by decide)⟩) hS
set_option maxHeartbeats 4000000 in
set_option maxRecDepth 100000 in
theorem t_X10_leaves (l : Launch) {D : va_G} {c0 : Nat → ClassId} {Y : Nat → Option Nat} {ν : Nat → Nat} {H : Heap} (hT : TI D vwCl (tysOf c0) (RTg ν) Y H) {a0 : Nat} (ha0 : Y a0 = some 10) {x1 : Int32} (hx1 : iv x1 (-2147483648) 2147483647) {x2 : Int32} (hx2 : iv x2 (-2147483648) 2147483647) (hν3 : ν 3 = 0) (hν5 : ν 5 = 0) (hU : uq Y) : Met l yX10_leaves (wz yX10_leaves cX10_leaves 5 (some .int)) { frames := 8, cells := 0, slots := 0, locals := 240 } (TP D vwCl (tysOf c0) H [.ref a0, .int x1, .int x2]) (TQi (fun x H' => TI D vwCl (tysOf c0) (RTg ν) Y H' ∧ iv x (-2) 3) Y [10, 29, 30, 41, 42, 43]) 0 0 (pW Y [10, 29, 30, 41, 42, 43]) := by
  refine Met.ofW (cc := cX10_leaves) (maxL := 5) (ret := (some .int)) (by decide) rfl ?_
  intro p e s m args below meth c s₁ B hml hv
  obtain ⟨rfl, rfl, hK⟩ := hv
  have hx := B.exec
  have hb := B.bytes
  have hr := B.returns
  have hts : ∀ w ∈ wq, w.before _ s = true := fun w h => atoms_spec (ws := wz yX10_leaves cX10_leaves 5 (some .int)) B.pre w (List.mem_cons_of_mem _ h)
  have hown : s.vm.findClass RX10 = some m.cls := findClass_of_methodNamed B.named
  have hlocks := B.notSynchronized
  obtain ⟨R, hR⟩ : ∃ R : Room, R = ({ frames := 8, cells := 0, slots := 0, locals := 240 } : Room) := ⟨_, rfl⟩
  rw [show (headSpec (wz yX10_leaves cX10_leaves 5 (some .int)) { frames := 8, cells := 0, slots := 0, locals := 240 }).room = R from hR.symm]
  refine ti_mi hx hb hr hlocks (fun Q ret => ?_)
  have hl := lv_entry [.ref a0, .int x1, .int x2] (n := 5) (Nat.le_of_ble_eq_true rfl)
  rw [lg_entry_eq]
  generalize (lg_sl [.ref a0, .int x1, .int x2] ++ List.replicate (5 - (lg_sl [.ref a0, .int x1, .int x2]).length) Slot.unset).toArray = ls at hl ⊢
  have hl : lv_has ls 5 [(0, .ref a0), (1, .int x1), (2, .int x2)] := hl
  refine ti_gen (P := fun H => TI D vwCl (tysOf c0) (RTg ν) Y H) (Y := Y) (ws := [10, 29, 30, 41, 42, 43]) hT (fun H locs hT hS => ?_)
  refine lv_aload_n hx hb dX10_leaves_0 rfl (lv_at hl 0 rfl) ?_
  refine lv_iload_n hx hb dX10_leaves_1 rfl (lv_at hl 1 rfl) ?_
  refine lv_iload_n hx hb dX10_leaves_2 rfl (lv_at hl 2 rfl) ?_
  refine ti_calli (va_runV (As := [.int x1, .int x2]) (rest := []) ⟨hx, hb, hml, hown, hts⟩ (t_X10_areTwo l hT ha0 (iv_w hx1 (by decide)) (iv_w hx2 (by decide)) hU) (cwV 2 hts (good_V kw_545 kw_546 kw_547 kw_5 kw_548) rfl rfl rfl (by decide +kernel) ⟨by rw [hR]; decide, by rw [hR]; decide⟩) (ti_preV hK hT ha0 rfl rfl) rfl rfl hl.1 rfl (lv_room (Nat.le_of_ble_eq_true rfl)) dX10_leaves_3 ⟨Nat.zero_le _, Nat.zero_le _⟩) hS (pW_sub rfl) (fun v3 H1 locs hB hS _ hk3 => ?_)
  obtain ⟨hH, hv3, hp3⟩ := hB
  rw [hH] at hS ⊢
  refine lv_if_ne (tgt := 12) hx hb dX10_leaves_6 (by decide) (fun c6 => ?_) (fun c6 => ?_)
  · skip
    have kl0 : (0 : Int32).toInt = 0 := by decide
    have f6 := i_ne c6
    have hv3_6l : iv v3 1 1 := iv_nel hv3 (iv_c (x := (0 : Int32)) (k := 0) (by decide)) c6 (by decide)
    have hx1_6p : iv x1 0 7 := by have b0a := (hx1).1; have b0b := (hx1).2; exact ⟨by omega, by omega⟩
    have hx2_6p : iv x2 0 7 := by have b0a := (hx2).1; have b0b := (hx2).2; exact ⟨by omega, by omega⟩
    refine lv_aload_n hx hb dX10_leaves_12 rfl (lv_at hl 0 rfl) ?_
    refine lv_iload_n hx hb dX10_leaves_13 rfl (lv_at hl 1 rfl) ?_
    refine lv_iconst (v := 0) hx hb dX10_leaves_14 (by decide) ?_
    refine ti_calli (va_runV (As := [.int x1, .int (0 : Int32)]) (rest := []) ⟨hx, hb, hml, hown, hts⟩ (t_X10_of l hT ha0 (iv_w hx1_6p (by decide)) (iv_w (iv_c (x := (0 : Int32)) (k := 0) (by decide)) (by decide)) hU) (cwV 2 hts (good_V kw_490 kw_491 kw_492 kw_5 kw_493) rfl rfl rfl (by decide +kernel) ⟨by rw [hR]; decide, by rw [hR]; decide⟩) (ti_preV hK hT ha0 rfl rfl) rfl rfl hl.1 rfl (lv_room (Nat.le_of_ble_eq_true rfl)) dX10_leaves_15 ⟨Nat.zero_le _, Nat.zero_le _⟩) hS (pW_sub rfl) (fun v15 H1 locs hB hS _ hk15 => ?_)
    obtain ⟨hH, hp15⟩ := hB
    rw [hH] at hS ⊢
    have hf15 : iv v15 (-2147483648) 100000 := by have b0a := ((iv_top v15)).1; have b0b := ((iv_top v15)).2; exact ⟨by omega, by omega⟩
    refine lv_aload_n hx hb dX10_leaves_18 rfl (lv_at hl 0 rfl) ?_
    refine lv_iload_n hx hb dX10_leaves_19 rfl (lv_at hl 2 rfl) ?_
    refine lv_iconst (v := 0) hx hb dX10_leaves_20 (by decide) ?_
    refine ti_calli (va_runV (As := [.int x2, .int (0 : Int32)]) (rest := [.int v15]) ⟨hx, hb, hml, hown, hts⟩ (t_X10_of l hT ha0 (iv_w hx2_6p (by decide)) (iv_w (iv_c (x := (0 : Int32)) (k := 0) (by decide)) (by decide)) hU) (cwV 2 hts (good_V kw_490 kw_491 kw_492 kw_5 kw_493) rfl rfl rfl (by decide +kernel) ⟨by rw [hR]; decide, by rw [hR]; decide⟩) (ti_preV hK hT ha0 rfl rfl) rfl rfl hl.1 rfl (lv_room (Nat.le_of_ble_eq_true rfl)) dX10_leaves_21 ⟨Nat.zero_le _, Nat.zero_le _⟩) hS (pW_sub rfl) (fun v21 H1 locs hB hS _ hk21 => ?_)
    obtain ⟨hH, hp21⟩ := hB
    rw [hH] at hS ⊢
    have hf21 : iv v21 (-2147483648) 100000 := by have b0a := ((iv_top v21)).1; have b0b := ((iv_top v21)).2; exact ⟨by omega, by omega⟩
    refine va_mmax hx hb (by rw [hml]; exact hl.1.symm) hown (hts _ kw_617) (hts _ kw_618) (hts _ kw_212) (hts _ kw_619) (by rw [hR]; decide) (by rw [hR]; exact Nat.le_of_ble_eq_true rfl) (Nat.zero_le _) (Nat.zero_le _) dX10_leaves_24 ?_
    refine lv_topi (fun v24 e24 => ?_)
    have hv24 : iv v24 (-2147483648) 100000 := by rw [e24]; exact iv_max hf15 hf21 (by decide)
    refine lv_istore_n (lv' := [(3, .int v24), (0, .ref a0), (1, .int x1), (2, .int x2)]) hx hb dX10_leaves_27 rfl hl (by decide) rfl (fun ls hl => ?_)
    refine lv_aload_n hx hb dX10_leaves_28 rfl (lv_at hl 1 rfl) ?_
    refine ti_callv (va_runV (As := []) (rest := []) ⟨hx, hb, hml, hown, hts⟩ (t_X10_thinks l hT ha0 hν3 hν5 hU) (cwV 0 hts (good_V kw_819 kw_820 kw_821 kw_5 kw_822) rfl rfl rfl (by decide +kernel) ⟨by rw [hR]; decide, by rw [hR]; decide⟩) (ti_preV hK hT ha0 rfl rfl) rfl rfl hl.1 rfl (lv_room (Nat.le_of_ble_eq_true rfl)) dX10_leaves_29 ⟨Nat.zero_le _, Nat.zero_le _⟩) hS (pW_sub rfl) (fun H locs hB hS _ hk29 => ?_)
    have hT := hB
    refine lv_aload_n hx hb dX10_leaves_32 rfl (lv_at hl 1 rfl) ?_
    refine lv_iload_n hx hb dX10_leaves_33 rfl (lv_at hl 2 rfl) ?_
    refine lv_iload_n hx hb dX10_leaves_34 rfl (lv_at hl 0 rfl) ?_
    refine ti_callv (va_runV (As := [.int x1, .int v24]) (rest := []) ⟨hx, hb, hml, hown, hts⟩ (t_X10_has l hT ha0 (iv_w hx1_6p (by decide)) (iv_w hv24 (by decide)) hU) (cwV 2 hts (good_V kw_507 kw_508 kw_509 kw_5 kw_510) rfl rfl rfl (by decide +kernel) ⟨by rw [hR]; decide, by rw [hR]; decide⟩) (ti_preV hK hT ha0 rfl rfl) rfl rfl hl.1 rfl (lv_room (Nat.le_of_ble_eq_true rfl)) dX10_leaves_35 ⟨Nat.zero_le _, Nat.zero_le _⟩) hS (pW_sub rfl) (fun H locs hB hS _ hk35 => ?_)
    obtain ⟨hT, hp35⟩ := hB
    refine lv_aload_n hx hb dX10_leaves_38 rfl (lv_at hl 1 rfl) ?_
    refine lv_iload_n hx hb dX10_leaves_39 rfl (lv_at hl 3 rfl) ?_
    refine lv_iload_n hx hb dX10_leaves_40 rfl (lv_at hl 0 rfl) ?_
    refine ti_callv (va_runV (As := [.int x2, .int v24]) (rest := []) ⟨hx, hb, hml, hown, hts⟩ (t_X10_has l hT ha0 (iv_w hx2_6p (by decide)) (iv_w hv24 (by decide)) hU) (cwV 2 hts (good_V kw_507 kw_508 kw_509 kw_5 kw_510) rfl rfl rfl (by decide +kernel) ⟨by rw [hR]; decide, by rw [hR]; decide⟩) (ti_preV hK hT ha0 rfl rfl) rfl rfl hl.1 rfl (lv_room (Nat.le_of_ble_eq_true rfl)) dX10_leaves_41 ⟨Nat.zero_le _, Nat.zero_le _⟩) hS (pW_sub rfl) (fun H locs hB hS _ hk41 => ?_)
    obtain ⟨hT, hp41⟩ := hB
    refine lv_aload_n hx hb dX10_leaves_44 rfl (lv_at hl 1 rfl) ?_
    refine lv_iload_n hx hb dX10_leaves_45 rfl (lv_at hl 2 rfl) ?_
    refine ti_calli (va_runV (As := [.int x1]) (rest := []) ⟨hx, hb, hml, hown, hts⟩ (t_X10_isRestless l hT ha0 (iv_w hx1_6p (by decide)) hU) (cwV 1 hts (good_V kw_1093 kw_1094 kw_1095 kw_5 kw_1096) rfl rfl rfl (by decide +kernel) ⟨by rw [hR]; decide, by rw [hR]; decide⟩) (ti_preV hK hT ha0 rfl rfl) rfl rfl hl.1 rfl (lv_room (Nat.le_of_ble_eq_true rfl)) dX10_leaves_46 ⟨Nat.zero_le _, Nat.zero_le _⟩) hS (pW_sub rfl) (fun v46 H locs hB hS _ hk46 => ?_)
    obtain ⟨hT, hv46⟩ := hB
    have J57 : ∀ (j57_S0 : Int32) (H : Heap) (locs : List Loc) (ls : Array Slot), iv j57_S0 0 1 → TI D vwCl (tysOf c0) (RTg (νt ν)) Y H → va_S (pW Y [10, 29, 30, 41, 42, 43]) s.heap H locs → lv_has ls 5 [(0, .ref a0), (1, .int x1), (2, .int x2), (3, .int v24)] → W p l e R s m ([.ref a0, .int x1, .int x2] : List Value).toArray below meth c H locs 0 0 Q (F0 m 57 ls [.int j57_S0]) := by
      intro j57_S0 H locs ls hj57_S0 hT hS hl
      refine lv_aload_n hx hb dX10_leaves_57 rfl (lv_at hl 0 rfl) ?_
      refine lv_iload_n hx hb dX10_leaves_58 rfl (lv_at hl 2 rfl) ?_
      refine ti_calli (va_runV (As := [.int x2]) (rest := [.int j57_S0]) ⟨hx, hb, hml, hown, hts⟩ (t_X10_isRestless l hT ha0 (iv_w hx2_6p (by decide)) hU) (cwV 1 hts (good_V kw_1093 kw_1094 kw_1095 kw_5 kw_1096) rfl rfl rfl (by decide +kernel) ⟨by rw [hR]; decide, by rw [hR]; decide⟩) (ti_preV hK hT ha0 rfl rfl) rfl rfl hl.1 rfl (lv_room (Nat.le_of_ble_eq_true rfl)) dX10_leaves_59 ⟨Nat.zero_le _, Nat.zero_le _⟩) hS (pW_sub rfl) (fun v59 H locs hB hS _ hk59 => ?_)
      obtain ⟨hT, hv59⟩ := hB
      have J70 : ∀ (j70_S1 : Int32) (H : Heap) (locs : List Loc) (ls : Array Slot), iv j70_S1 0 2 → TI D vwCl (tysOf c0) (RTg (νt ν)) Y H → va_S (pW Y [10, 29, 30, 41, 42, 43]) s.heap H locs → lv_has ls 5 [(0, .ref a0), (1, .int x1), (2, .int x2), (3, .int v24)] → W p l e R s m ([.ref a0, .int x1, .int x2] : List Value).toArray below meth c H locs 0 0 Q (F0 m 70 ls [.int j70_S1, .int j57_S0]) := by
        intro j70_S1 H locs ls hj70_S1 hT hS hl
        refine lv_iadd hx hb dX10_leaves_70 ?_
        refine lv_topi (fun v70 e70 => ?_)
        have hv70 : iv v70 0 3 := by rw [e70]; exact iv_w (iv_add hj57_S0 hj70_S1 (by decide)) (by decide)
        have s70 : v70.toInt = j57_S0.toInt + j70_S1.toInt := by rw [e70]; exact iv_addE hj57_S0 hj70_S1 (by decide)
        refine lv_istore (lv' := [(4, .int v70), (0, .ref a0), (1, .int x1), (2, .int x2), (3, .int v24)]) hx hb dX10_leaves_71 hl (by decide) rfl (fun ls hl => ?_)
        refine lv_aload_n hx hb dX10_leaves_73 rfl (lv_at hl 1 rfl) ?_
        refine ti_callv (va_runV (As := []) (rest := []) ⟨hx, hb, hml, hown, hts⟩ (t_X10_wakes l hT ha0 rfl rfl hU) (cwV 0 hts (good_V kw_824 kw_825 kw_826 kw_5 kw_827) rfl rfl rfl (by decide +kernel) ⟨by rw [hR]; decide, by rw [hR]; decide⟩) (ti_preV hK hT ha0 rfl rfl) rfl rfl hl.1 rfl (lv_room (Nat.le_of_ble_eq_true rfl)) dX10_leaves_74 ⟨Nat.zero_le _, Nat.zero_le _⟩) hS (pW_sub rfl) (fun H locs hB hS _ hk74 => ?_)
        have hT := hB
        rw [nu_back hν3 hν5] at hT
        refine lv_iload hx hb dX10_leaves_77 (lv_at hl 0 rfl) ?_
        exact ret _ _ _ _ _ dX10_leaves_79 (⟨hT, iv_w hv70 (by decide)⟩) hS
      refine lv_if_eq (tgt := 69) hx hb dX10_leaves_62 (by decide) (fun c62 => ?_) (fun c62 => ?_)
      · skip
        have f62 := i_eq c62
        have hv59_62l : iv v59 0 0 := iv_eql hv59 (iv_c (x := (0 : Int32)) (k := 0) (by decide)) c62 (by decide)
        refine lv_iconst (v := 0) hx hb dX10_leaves_69 (by decide) ?_
        exact J70 (0 : Int32) _ _ _  (iv_w (iv_c (x := (0 : Int32)) (k := 0) (by decide)) (by decide)) hT hS (lv_sub hl [0, 1, 2, 3] rfl)
      · skip
        have f62 := i_ne c62
        have hv59_62l : iv v59 1 1 := iv_nel hv59 (iv_c (x := (0 : Int32)) (k := 0) (by decide)) c62 (by decide)
        refine lv_iconst (v := 2) hx hb dX10_leaves_65 (by decide) ?_
        refine lv_goto (tgt := 70) hx hb dX10_leaves_66 (by decide) ?_
        exact J70 (2 : Int32) _ _ _  (iv_w (iv_c (x := (2 : Int32)) (k := 2) (by decide)) (by decide)) hT hS (lv_sub hl [0, 1, 2, 3] rfl)
    refine lv_if_eq (tgt := 56) hx hb dX10_leaves_49 (by decide) (fun c49 => ?_) (fun c49 => ?_)
    · skip
      have f49 := i_eq c49
      have hv46_49l : iv v46 0 0 := iv_eql hv46 (iv_c (x := (0 : Int32)) (k := 0) (by decide)) c49 (by decide)
      refine lv_iconst (v := 0) hx hb dX10_leaves_56 (by decide) ?_
      exact J57 (0 : Int32) _ _ _  (iv_w (iv_c (x := (0 : Int32)) (k := 0) (by decide)) (by decide)) hT hS (lv_sub hl [1, 2, 3, 0] rfl)
    · skip
      have f49 := i_ne c49
      have hv46_49l : iv v46 1 1 := iv_nel hv46 (iv_c (x := (0 : Int32)) (k := 0) (by decide)) c49 (by decide)
      refine lv_iconst (v := 1) hx hb dX10_leaves_52 (by decide) ?_
      refine lv_goto (tgt := 57) hx hb dX10_leaves_53 (by decide) ?_
      exact J57 (1 : Int32) _ _ _  (iv_w (iv_c (x := (1 : Int32)) (k := 1) (by decide)) (by decide)) hT hS (lv_sub hl [1, 2, 3, 0] rfl)
  · skip
    have kl0 : (0 : Int32).toInt = 0 := by decide
    have f6 := i_eq c6
    have hv3_6l : iv v3 0 0 := iv_eql hv3 (iv_c (x := (0 : Int32)) (k := 0) (by decide)) c6 (by decide)
    refine lv_bipush (v := (-2)) hx hb dX10_leaves_9 (by decide) ?_
    exact ret _ _ _ _ _ dX10_leaves_11 (⟨hT, iv_w (iv_c (x := (-2 : Int32)) (k := (-2)) (by decide)) (by decide)⟩) hS
set_option maxHeartbeats 4000000 in
set_option maxRecDepth 100000 in
theorem t_X10_trulyWorth (l : Launch) {D : va_G} {c0 : Nat → ClassId} {Y : Nat → Option Nat} {ν : Nat → Nat} {H : Heap} (hT : TI D vwCl (tysOf c0) (RTg ν) Y H) {a0 : Nat} (ha0 : Y a0 = some 10) {x1 : Int32} (hx1 : iv x1 0 7) (hU : uq Y) : Met l yX10_trulyWorth (wz yX10_trulyWorth cX10_trulyWorth 3 (some .int)) { frames := 7, cells := 0, slots := 0, locals := 218 } (TP D vwCl (tysOf c0) H [.ref a0, .int x1]) (TQi (fun x H' => TI D vwCl (tysOf c0) (RTg ν) Y H') Y [10, 29, 43, 46]) 0 0 (pW Y [10, 29, 43, 46]) := by
  refine Met.ofW (cc := cX10_trulyWorth) (maxL := 3) (ret := (some .int)) (by decide) rfl ?_
  intro p e s m args below meth c s₁ B hml hv
  obtain ⟨rfl, rfl, hK⟩ := hv
  have hx := B.exec
  have hb := B.bytes
  have hr := B.returns
  have hts : ∀ w ∈ wq, w.before _ s = true := fun w h => atoms_spec (ws := wz yX10_trulyWorth cX10_trulyWorth 3 (some .int)) B.pre w (List.mem_cons_of_mem _ h)
  have hown : s.vm.findClass RX10 = some m.cls := findClass_of_methodNamed B.named
  have hlocks := B.notSynchronized
  obtain ⟨R, hR⟩ : ∃ R : Room, R = ({ frames := 7, cells := 0, slots := 0, locals := 218 } : Room) := ⟨_, rfl⟩
  rw [show (headSpec (wz yX10_trulyWorth cX10_trulyWorth 3 (some .int)) { frames := 7, cells := 0, slots := 0, locals := 218 }).room = R from hR.symm]
  refine ti_mi hx hb hr hlocks (fun Q ret => ?_)
  have hl := lv_entry [.ref a0, .int x1] (n := 3) (Nat.le_of_ble_eq_true rfl)
  rw [lg_entry_eq]
  generalize (lg_sl [.ref a0, .int x1] ++ List.replicate (3 - (lg_sl [.ref a0, .int x1]).length) Slot.unset).toArray = ls at hl ⊢
  have hl : lv_has ls 3 [(0, .ref a0), (1, .int x1)] := hl
  refine ti_gen (P := fun H => TI D vwCl (tysOf c0) (RTg ν) Y H) (Y := Y) (ws := [10, 29, 43, 46]) hT (fun H locs hT hS => ?_)
  refine lv_aload_n hx hb dX10_trulyWorth_0 rfl (lv_at hl 0 rfl) ?_
  refine lv_iload_n hx hb dX10_trulyWorth_1 rfl (lv_at hl 1 rfl) ?_
  refine lv_iconst (v := 1) hx hb dX10_trulyWorth_2 (by decide) ?_
  refine ti_callv (va_runV (As := [.int x1, .int (1 : Int32)]) (rest := []) ⟨hx, hb, hml, hown, hts⟩ (t_X10_findsBest l hT ha0 (iv_w hx1 (by decide)) (iv_w (iv_c (x := (1 : Int32)) (k := 1) (by decide)) (by decide)) hU) (cwV 2 hts (good_V kw_956 kw_957 kw_958 kw_5 kw_959) rfl rfl rfl (by decide +kernel) ⟨by rw [hR]; decide, by rw [hR]; decide⟩) (ti_preV hK hT ha0 rfl rfl) rfl rfl hl.1 rfl (lv_room (Nat.le_of_ble_eq_true rfl)) dX10_trulyWorth_3 ⟨Nat.zero_le _, Nat.zero_le _⟩) hS (pW_sub rfl) (fun H locs hB hS _ hk3 => ?_)
  have hT := hB
  refine lv_iconst (v := 0) hx hb dX10_trulyWorth_6 (by decide) ?_
  have J8 : ∀ (n : Nat) (j8_L2 : Int32) (H : Heap) (locs : List Loc) (ls : Array Slot), (5 - j8_L2.toInt).toNat < n → iv j8_L2 0 5 → (∀ q, Y q = some 46 → ∀ b, Y b = some 43 → ∀ j : Nat, j < j8_L2.toNatClampNeg → ∃ v : Value, am q j v H ∧ am b j v H) → TI D vwCl (tysOf c0) (RTg ν) Y H → va_S (pW Y [10, 29, 43, 46]) s.heap H locs → lv_has ls 3 [(0, .ref a0), (1, .int x1), (2, .int j8_L2)] → W p l e R s m ([.ref a0, .int x1] : List Value).toArray below meth c H locs 0 0 Q (F0 m 8 ls []) := by
    intro n
    induction n with
    | zero => intro j8_L2 H locs ls hms; exact absurd hms (Nat.not_lt_zero _)
    | succ n ih8 =>
      intro j8_L2 H locs ls hms8 hj8_L2 hX8_0 hT hS hl
      refine lv_iload_n hx hb dX10_trulyWorth_8 rfl (lv_at hl 2 rfl) ?_
      refine lv_iconst (v := 5) hx hb dX10_trulyWorth_9 (by decide) ?_
      refine lv_icmp_ge (tgt := 31) hx hb dX10_trulyWorth_10 (by decide) (fun c10 => ?_) (fun c10 => ?_)
      · skip
        have kl5 : (5 : Int32).toInt = 5 := by decide
        have f10 := i_le c10
        have hj8_L2_10r : iv j8_L2 5 5 := iv_ler (iv_c (x := (5 : Int32)) (k := 5) (by decide)) hj8_L2 c10 (by decide)
        refine lv_aload_n hx hb dX10_trulyWorth_31 rfl (lv_at hl 0 rfl) ?_
        refine lv_iload_n hx hb dX10_trulyWorth_32 rfl (lv_at hl 1 rfl) ?_
        refine ti_callv (va_runV (As := [.int x1]) (rest := []) ⟨hx, hb, hml, hown, hts⟩ (t_X10_guessesTruly l hT ha0 (iv_w hx1 (by decide)) hU) (cwV 1 hts (good_V kw_1275 kw_1276 kw_1277 kw_5 kw_1278) rfl rfl rfl (by decide +kernel) ⟨by rw [hR]; decide, by rw [hR]; decide⟩) (ti_preV hK hT ha0 rfl rfl) rfl rfl hl.1 rfl (lv_room (Nat.le_of_ble_eq_true rfl)) dX10_trulyWorth_33 ⟨Nat.zero_le _, Nat.zero_le _⟩) hS (pW_sub rfl) (fun H locs hB hS _ hk33 => ?_)
        have hT := hB
        refine lv_aload_n hx hb dX10_trulyWorth_36 rfl (lv_at hl 0 rfl) ?_
        refine lv_iload_n hx hb dX10_trulyWorth_37 rfl (lv_at hl 1 rfl) ?_
        refine lv_aload_n hx hb dX10_trulyWorth_38 rfl (lv_at hl 0 rfl) ?_
        refine ti_getr hx hb hts inlX10 hown hK hT ha0 rfl rfl rfl 28 (by decide) (hts _ kw_145) (fun _ h9 => h9) rfl dX10_trulyWorth_39 (fun v39 hv39 hm39 => ?_)
        refine lv_iconst (v := 1) hx hb dX10_trulyWorth_42 (by decide) ?_
        refine ti_iald (lo := (-2147483648)) (hi := 2147483647) hx hb (aT0 hK) hT hv39 rfl (iv_c (x := (1 : Int32)) (k := 1) (by decide)) (by decide) (one_j 1 rfl rfl (by decide) (by decide)) dX10_trulyWorth_43 (fun v43 hv43 hm43 => ?_)
        refine lv_aload_n hx hb dX10_trulyWorth_44 rfl (lv_at hl 0 rfl) ?_
        refine ti_getE (ci := 10) (v := .ref v39) hx hb hts inlX10 hown hK hm39 rfl (by decide) (hts _ kw_145) (fun _ h9 => h9) dX10_trulyWorth_45 ?_
        refine lv_iconst (v := 2) hx hb dX10_trulyWorth_48 (by decide) ?_
        refine ti_iald (lo := (-2147483648)) (hi := 2147483647) hx hb (aT0 hK) hT hv39 rfl (iv_c (x := (2 : Int32)) (k := 2) (by decide)) (by decide) (one_j 2 rfl rfl (by decide) (by decide)) dX10_trulyWorth_49 (fun v49 hv49 hm49 => ?_)
        refine lv_aload_n hx hb dX10_trulyWorth_50 rfl (lv_at hl 0 rfl) ?_
        refine ti_getE (ci := 10) (v := .ref v39) hx hb hts inlX10 hown hK hm39 rfl (by decide) (hts _ kw_145) (fun _ h9 => h9) dX10_trulyWorth_51 ?_
        refine lv_iconst (v := 3) hx hb dX10_trulyWorth_54 (by decide) ?_
        refine ti_iald (lo := (-2147483648)) (hi := 2147483647) hx hb (aT0 hK) hT hv39 rfl (iv_c (x := (3 : Int32)) (k := 3) (by decide)) (by decide) (one_j 3 rfl rfl (by decide) (by decide)) dX10_trulyWorth_55 (fun v55 hv55 hm55 => ?_)
        refine lv_aload_n hx hb dX10_trulyWorth_56 rfl (lv_at hl 0 rfl) ?_
        refine ti_getE (ci := 10) (v := .ref v39) hx hb hts inlX10 hown hK hm39 rfl (by decide) (hts _ kw_145) (fun _ h9 => h9) dX10_trulyWorth_57 ?_
        refine lv_iconst (v := 4) hx hb dX10_trulyWorth_60 (by decide) ?_
        refine ti_iald (lo := (-1)) (hi := 7) hx hb (aT0 hK) hT hv39 rfl (iv_c (x := (4 : Int32)) (k := 4) (by decide)) (by decide) (one_j 4 rfl rfl (by decide) (by decide)) dX10_trulyWorth_61 (fun v61 hv61 hm61 => ?_)
        obtain ⟨bb, hbb⟩ := model_best hT ha0
        obtain ⟨y3, p3, q3⟩ := hX8_0 v39 hv39 bb hbb 3 (by have b0a := (hx1).1; have b0b := (hx1).2; have b1a := (hj8_L2_10r).1; have b1b := (hj8_L2_10r).2; have b2a := (hv43).1; have b2b := (hv43).2; have b3a := (hv49).1; have b3b := (hv49).2; have b4a := (hv55).1; have b4b := (hv55).2; have b5a := (hv61).1; have b5b := (hv61).2; show 3 < j8_L2.toInt.toNat; omega)
        have r3 := am_inj (p3.call hk33 (pW_not hv39 rfl)) hm55
        rw [r3] at q3
        obtain ⟨y4, p4, q4⟩ := hX8_0 v39 hv39 bb hbb 4 (by have b0a := (hx1).1; have b0b := (hx1).2; have b1a := (hj8_L2_10r).1; have b1b := (hj8_L2_10r).2; have b2a := (hv43).1; have b2b := (hv43).2; have b3a := (hv49).1; have b3b := (hv49).2; have b4a := (hv55).1; have b4b := (hv55).2; have b5a := (hv61).1; have b5b := (hv61).2; show 4 < j8_L2.toInt.toNat; omega)
        have r4 := am_inj (p4.call hk33 (pW_not hv39 rfl)) hm61
        rw [r4] at q4
        have hrel := best_rel hT hbb (q3.call hk33 (pW_not hbb rfl)) (q4.call hk33 (pW_not hbb rfl))
        refine ti_calli (va_runV (As := [.int x1, .int v43, .int v49, .int v55, .int v61]) (rest := []) ⟨hx, hb, hml, hown, hts⟩ (t_X10_valueOf l hT ha0 (iv_w hx1 (by decide)) (iv_w hv43 (by decide)) (iv_w hv49 (by decide)) (iv_w hv55 (by decide)) (iv_w hv61 (by decide)) (fun h9 => by have b0a := (hv55).1; have b0b := (hv55).2; have b1a := (hv61).1; have b1b := (hv61).2; omega) hU) (cwV 5 hts (good_V kw_965 kw_966 kw_967 kw_5 kw_968) rfl rfl rfl (by decide +kernel) ⟨by rw [hR]; decide, by rw [hR]; decide⟩) (ti_preV hK hT ha0 rfl rfl) rfl rfl hl.1 rfl (lv_room (Nat.le_of_ble_eq_true rfl)) dX10_trulyWorth_62 ⟨Nat.zero_le _, Nat.zero_le _⟩) hS (pW_sub rfl) (fun v62 H locs hB hS _ hk62 => ?_)
        have hT := hB
        exact ret _ _ _ _ _ dX10_trulyWorth_65 (hT) hS
      · skip
        have kl5 : (5 : Int32).toInt = 5 := by decide
        have f10 := i_nle c10
        have hj8_L2_10l : iv j8_L2 0 4 := iv_ltl hj8_L2 (iv_c (x := (5 : Int32)) (k := 5) (by decide)) (Int32.not_le.mp c10) (by decide)
        refine lv_aload_n hx hb dX10_trulyWorth_13 rfl (lv_at hl 0 rfl) ?_
        refine ti_getr hx hb hts inlX10 hown hK hT ha0 rfl rfl rfl 28 (by decide) (hts _ kw_145) (fun _ h9 => h9) rfl dX10_trulyWorth_14 (fun v14 hv14 hm14 => ?_)
        refine lv_iload_n hx hb dX10_trulyWorth_17 rfl (lv_at hl 2 rfl) ?_
        refine lv_aload_n hx hb dX10_trulyWorth_18 rfl (lv_at hl 0 rfl) ?_
        refine ti_getr hx hb hts inlX10 hown hK hT ha0 rfl rfl rfl 24 (by decide) (hts _ kw_142) (fun _ h9 => h9) rfl dX10_trulyWorth_19 (fun v19 hv19 hm19 => ?_)
        refine lv_iload_n hx hb dX10_trulyWorth_22 rfl (lv_at hl 2 rfl) ?_
        refine ti_ialdD hx hb (aT0 hK) hT hv19 rfl hj8_L2_10l (by decide) (fun j => b5_i j) dX10_trulyWorth_23 (fun v23 dv23 hm23 => ?_)
        refine ti_iastD hx hb (aT0 hK) hT hS hv14 rfl rfl hj8_L2_10l (by decide) (dv23) (fun _ _ => trivial) dX10_trulyWorth_24 (fun H locs hT hS oq24 he24 hk24 => ?_)
        obtain ⟨v25, e25⟩ : ∃ y : Int32, y = j8_L2 + 1 := ⟨_, rfl⟩
        have hv25 : iv v25 1 5 := by rw [e25]; exact iv_w (iv_add hj8_L2_10l (iv_c (x := (1 : Int32)) (k := 1) (by decide)) (by decide)) (by decide)
        have s25 : v25.toInt = j8_L2.toInt + 1 := by rw [e25, iv_addE hj8_L2_10l (iv_c (x := (1 : Int32)) (k := 1) (by decide)) (by decide)]; rfl
        refine lv_iinc (v := v25) (lv' := [(2, .int v25), (0, .ref a0), (1, .int x1)]) hx hb dX10_trulyWorth_25 hl (k := 2) rfl (by rw [e25]; rfl) (by decide) rfl (fun ls hl => ?_)
        refine lv_goto (tgt := 8) hx hb dX10_trulyWorth_28 (by decide) ?_
        exact ih8 v25 _ _ _ (ms_up hms8 (by have := s25; omega) (iv_w (c := 1) (d := 5) hv25 (by decide)).2) (iv_w hv25 (by decide)) (fun q hq b hb => by
            have e9 := hU 46 q v14 (by decide) hq hv14
            subst e9
            have e9 := hU 43 b v19 (by decide) hb hv19
            subst e9
            exact act_step (hX8_0 _ hq _ hb) he24 hk24 (oq24 _ (ne_r hb hq rfl)) hm23 (by have b0a := (hx1).1; have b0b := (hx1).2; have b1a := (hj8_L2_10l).1; have b1b := (hj8_L2_10l).2; have b2a := ((iv_top v23)).1; have b2b := ((iv_top v23)).2; have b3a := (hv25).1; have b3b := (hv25).2; show v25.toInt.toNat = j8_L2.toInt.toNat + 1; omega)) hT hS (lv_sub hl [1, 2, 0] rfl)
  refine lv_istore_n (lv' := [(2, .int (0 : Int32)), (0, .ref a0), (1, .int x1)]) hx hb dX10_trulyWorth_7 rfl hl (by decide) rfl (fun ls hl => ?_)
  exact J8 _ (0 : Int32) _ _ _ (Nat.lt_succ_self _) (iv_w (iv_c (x := (0 : Int32)) (k := 0) (by decide)) (by decide)) (fun q hq b hb j hj => absurd hj nlt0) hT hS (lv_sub hl [1, 2, 0] rfl)
set_option maxHeartbeats 4000000 in
set_option maxRecDepth 100000 in
theorem t_X10_seenWorth (l : Launch) {D : va_G} {c0 : Nat → ClassId} {Y : Nat → Option Nat} {ν : Nat → Nat} {H : Heap} (hT : TI D vwCl (tysOf c0) (RTg ν) Y H) {a0 : Nat} (ha0 : Y a0 = some 10) {x1 : Int32} (hx1 : iv x1 0 7) (hU : uq Y) : Met l yX10_seenWorth (wz yX10_seenWorth cX10_seenWorth 2 (some .int)) { frames := 8, cells := 0, slots := 0, locals := 240 } (TP D vwCl (tysOf c0) H [.ref a0, .int x1]) (TQi (fun x H' => TI D vwCl (tysOf c0) (RTg ν) Y H') Y [10, 29, 43, 46]) 0 0 (pW Y [10, 29, 43, 46]) := by
  refine Met.ofW (cc := cX10_seenWorth) (maxL := 2) (ret := (some .int)) (by decide) rfl ?_
  intro p e s m args below meth c s₁ B hml hv
  obtain ⟨rfl, rfl, hK⟩ := hv
  have hx := B.exec
  have hb := B.bytes
  have hr := B.returns
  have hts : ∀ w ∈ wq, w.before _ s = true := fun w h => atoms_spec (ws := wz yX10_seenWorth cX10_seenWorth 2 (some .int)) B.pre w (List.mem_cons_of_mem _ h)
  have hown : s.vm.findClass RX10 = some m.cls := findClass_of_methodNamed B.named
  have hlocks := B.notSynchronized
  obtain ⟨R, hR⟩ : ∃ R : Room, R = ({ frames := 8, cells := 0, slots := 0, locals := 240 } : Room) := ⟨_, rfl⟩
  rw [show (headSpec (wz yX10_seenWorth cX10_seenWorth 2 (some .int)) { frames := 8, cells := 0, slots := 0, locals := 240 }).room = R from hR.symm]
  refine ti_mi hx hb hr hlocks (fun Q ret => ?_)
  have hl := lv_entry [.ref a0, .int x1] (n := 2) (Nat.le_of_ble_eq_true rfl)
  rw [lg_entry_eq]
  generalize (lg_sl [.ref a0, .int x1] ++ List.replicate (2 - (lg_sl [.ref a0, .int x1]).length) Slot.unset).toArray = ls at hl ⊢
  have hl : lv_has ls 2 [(0, .ref a0), (1, .int x1)] := hl
  refine ti_gen (P := fun H => TI D vwCl (tysOf c0) (RTg ν) Y H) (Y := Y) (ws := [10, 29, 43, 46]) hT (fun H locs hT hS => ?_)
  refine lv_aload_n hx hb dX10_seenWorth_0 rfl (lv_at hl 0 rfl) ?_
  refine lv_iload_n hx hb dX10_seenWorth_1 rfl (lv_at hl 1 rfl) ?_
  refine ti_callv (va_runV (As := [.int x1]) (rest := []) ⟨hx, hb, hml, hown, hts⟩ (t_X10_guesses l hT ha0 (iv_w hx1 (by decide)) hU) (cwV 1 hts (good_V kw_952 kw_953 kw_954 kw_5 kw_955) rfl rfl rfl (by decide +kernel) ⟨by rw [hR]; decide, by rw [hR]; decide⟩) (ti_preV hK hT ha0 rfl rfl) rfl rfl hl.1 rfl (lv_room (Nat.le_of_ble_eq_true rfl)) dX10_seenWorth_2 ⟨Nat.zero_le _, Nat.zero_le _⟩) hS (pW_sub rfl) (fun H locs hB hS _ hk2 => ?_)
  have hT := hB
  refine lv_aload_n hx hb dX10_seenWorth_5 rfl (lv_at hl 0 rfl) ?_
  refine lv_iload_n hx hb dX10_seenWorth_6 rfl (lv_at hl 1 rfl) ?_
  refine ti_calli (va_runV (As := [.int x1]) (rest := []) ⟨hx, hb, hml, hown, hts⟩ (t_X10_trulyWorth l hT ha0 (iv_w hx1 (by decide)) hU) (cwV 1 hts (good_V kw_1279 kw_1280 kw_1281 kw_5 kw_1282) rfl rfl rfl (by decide +kernel) ⟨by rw [hR]; decide, by rw [hR]; decide⟩) (ti_preV hK hT ha0 rfl rfl) rfl rfl hl.1 rfl (lv_room (Nat.le_of_ble_eq_true rfl)) dX10_seenWorth_7 ⟨Nat.zero_le _, Nat.zero_le _⟩) hS (pW_sub rfl) (fun v7 H locs hB hS _ hk7 => ?_)
  have hT := hB
  exact ret _ _ _ _ _ dX10_seenWorth_10 (hT) hS
set_option maxHeartbeats 4000000 in
set_option maxRecDepth 100000 in
theorem t_X10_know (l : Launch) {D : va_G} {c0 : Nat → ClassId} {Y : Nat → Option Nat} {ν : Nat → Nat} {H : Heap} (hT : TI D vwCl (tysOf c0) (RTg ν) Y H) {a0 : Nat} (ha0 : Y a0 = some 10) {x1 : Int32} (hx1 : iv x1 (-2147483648) 2147483647) (hU : uq Y) : Met l yX10_know (wz yX10_know cX10_know 3 (some .int)) { frames := 9, cells := 0, slots := 0, locals := 261 } (TP D vwCl (tysOf c0) H [.ref a0, .int x1]) (TQi (fun x H' => TI D vwCl (tysOf c0) (RTg ν) Y H') Y [10, 29, 43, 46]) 0 0 (pW Y [10, 29, 43, 46]) := by
  refine Met.ofW (cc := cX10_know) (maxL := 3) (ret := (some .int)) (by decide) rfl ?_
  intro p e s m args below meth c s₁ B hml hv
  obtain ⟨rfl, rfl, hK⟩ := hv
  have hx := B.exec
  have hb := B.bytes
  have hr := B.returns
  have hts : ∀ w ∈ wq, w.before _ s = true := fun w h => atoms_spec (ws := wz yX10_know cX10_know 3 (some .int)) B.pre w (List.mem_cons_of_mem _ h)
  have hown : s.vm.findClass RX10 = some m.cls := findClass_of_methodNamed B.named
  have hlocks := B.notSynchronized
  obtain ⟨R, hR⟩ : ∃ R : Room, R = ({ frames := 9, cells := 0, slots := 0, locals := 261 } : Room) := ⟨_, rfl⟩
  rw [show (headSpec (wz yX10_know cX10_know 3 (some .int)) { frames := 9, cells := 0, slots := 0, locals := 261 }).room = R from hR.symm]
  refine ti_mi hx hb hr hlocks (fun Q ret => ?_)
  have hl := lv_entry [.ref a0, .int x1] (n := 3) (Nat.le_of_ble_eq_true rfl)
  rw [lg_entry_eq]
  generalize (lg_sl [.ref a0, .int x1] ++ List.replicate (3 - (lg_sl [.ref a0, .int x1]).length) Slot.unset).toArray = ls at hl ⊢
  have hl : lv_has ls 3 [(0, .ref a0), (1, .int x1)] := hl
  refine ti_gen (P := fun H => TI D vwCl (tysOf c0) (RTg ν) Y H) (Y := Y) (ws := [10, 29, 43, 46]) hT (fun H locs hT hS => ?_)
  refine lv_aload_n hx hb dX10_know_0 rfl (lv_at hl 0 rfl) ?_
  refine lv_iload_n hx hb dX10_know_1 rfl (lv_at hl 1 rfl) ?_
  refine ti_calli (va_runV (As := [.int x1]) (rest := []) ⟨hx, hb, hml, hown, hts⟩ (t_X10_isPerson l hT ha0 (iv_w hx1 (by decide)) hU) (cwV 1 hts (good_V kw_486 kw_487 kw_488 kw_5 kw_489) rfl rfl rfl (by decide +kernel) ⟨by rw [hR]; decide, by rw [hR]; decide⟩) (ti_preV hK hT ha0 rfl rfl) rfl rfl hl.1 rfl (lv_room (Nat.le_of_ble_eq_true rfl)) dX10_know_2 ⟨Nat.zero_le _, Nat.zero_le _⟩) hS (pW_sub rfl) (fun v2 H1 locs hB hS _ hk2 => ?_)
  obtain ⟨hH, hv2, hp2⟩ := hB
  rw [hH] at hS ⊢
  refine lv_if_ne (tgt := 12) hx hb dX10_know_5 (by decide) (fun c5 => ?_) (fun c5 => ?_)
  · skip
    have kl0 : (0 : Int32).toInt = 0 := by decide
    have f5 := i_ne c5
    have hv2_5l : iv v2 1 1 := iv_nel hv2 (iv_c (x := (0 : Int32)) (k := 0) (by decide)) c5 (by decide)
    have hx1_5p : iv x1 0 7 := by have b0a := (hx1).1; have b0b := (hx1).2; exact ⟨by omega, by omega⟩
    refine lv_aload_n hx hb dX10_know_12 rfl (lv_at hl 0 rfl) ?_
    refine lv_iload_n hx hb dX10_know_13 rfl (lv_at hl 1 rfl) ?_
    refine ti_callv (va_runV (As := [.int x1]) (rest := []) ⟨hx, hb, hml, hown, hts⟩ (t_X10_guessesTruly l hT ha0 (iv_w hx1_5p (by decide)) hU) (cwV 1 hts (good_V kw_1275 kw_1276 kw_1277 kw_5 kw_1278) rfl rfl rfl (by decide +kernel) ⟨by rw [hR]; decide, by rw [hR]; decide⟩) (ti_preV hK hT ha0 rfl rfl) rfl rfl hl.1 rfl (lv_room (Nat.le_of_ble_eq_true rfl)) dX10_know_14 ⟨Nat.zero_le _, Nat.zero_le _⟩) hS (pW_sub rfl) (fun H locs hB hS _ hk14 => ?_)
    have hT := hB
    refine lv_aload_n hx hb dX10_know_17 rfl (lv_at hl 0 rfl) ?_
    refine lv_iload_n hx hb dX10_know_18 rfl (lv_at hl 1 rfl) ?_
    refine ti_calli (va_runV (As := [.int x1]) (rest := []) ⟨hx, hb, hml, hown, hts⟩ (t_X10_trulyWorth l hT ha0 (iv_w hx1_5p (by decide)) hU) (cwV 1 hts (good_V kw_1279 kw_1280 kw_1281 kw_5 kw_1282) rfl rfl rfl (by decide +kernel) ⟨by rw [hR]; decide, by rw [hR]; decide⟩) (ti_preV hK hT ha0 rfl rfl) rfl rfl hl.1 rfl (lv_room (Nat.le_of_ble_eq_true rfl)) dX10_know_19 ⟨Nat.zero_le _, Nat.zero_le _⟩) hS (pW_sub rfl) (fun v19 H locs hB hS _ hk19 => ?_)
    have hT := hB
    refine lv_istore_n (lv' := [(2, .int v19), (0, .ref a0), (1, .int x1)]) hx hb dX10_know_22 rfl hl (by decide) rfl (fun ls hl => ?_)
    refine lv_iload_n hx hb dX10_know_23 rfl (lv_at hl 0 rfl) ?_
    refine lv_aload_n hx hb dX10_know_24 rfl (lv_at hl 1 rfl) ?_
    refine lv_iload_n hx hb dX10_know_25 rfl (lv_at hl 2 rfl) ?_
    refine ti_calli (va_runV (As := [.int x1]) (rest := [.int v19]) ⟨hx, hb, hml, hown, hts⟩ (t_X10_seenWorth l hT ha0 (iv_w hx1_5p (by decide)) hU) (cwV 1 hts (good_V kw_1283 kw_1284 kw_1285 kw_5 kw_1286) rfl rfl rfl (by decide +kernel) ⟨by rw [hR]; decide, by rw [hR]; decide⟩) (ti_preV hK hT ha0 rfl rfl) rfl rfl hl.1 rfl (lv_room (Nat.le_of_ble_eq_true rfl)) dX10_know_26 ⟨Nat.zero_le _, Nat.zero_le _⟩) hS (pW_sub rfl) (fun v26 H locs hB hS _ hk26 => ?_)
    have hT := hB
    refine lv_isub hx hb dX10_know_29 ?_
    refine lv_topi (fun v29 e29 => ?_)
    have hv29 : iv v29 (-2147483648) 2147483647 := iv_top _
    exact ret _ _ _ _ _ dX10_know_30 (hT) hS
  · skip
    have kl0 : (0 : Int32).toInt = 0 := by decide
    have f5 := i_eq c5
    have hv2_5l : iv v2 0 0 := iv_eql hv2 (iv_c (x := (0 : Int32)) (k := 0) (by decide)) c5 (by decide)
    refine lv_ldcw (v := (-2000000000)) hx hb hown (hts _ kw_960) dX10_know_8 ?_
    exact ret _ _ _ _ _ dX10_know_11 (hT) hS
set_option maxHeartbeats 4000000 in
set_option maxRecDepth 100000 in
theorem t_X10_knows (l : Launch) {D : va_G} {c0 : Nat → ClassId} {Y : Nat → Option Nat} {ν : Nat → Nat} {H : Heap} (hT : TI D vwCl (tysOf c0) (RTg ν) Y H) {a0 : Nat} (ha0 : Y a0 = some 10) {x1 : Int32} (hx1 : iv x1 (-2147483648) 2147483647) {x2 : Int32} (hx2 : iv x2 (-2147483648) 2147483647) (hU : uq Y) : Met l yX10_knows (wz yX10_knows cX10_knows 4 (some .int)) { frames := 9, cells := 0, slots := 0, locals := 261 } (TP D vwCl (tysOf c0) H [.ref a0, .int x1, .int x2]) (TQi (fun x H' => TI D vwCl (tysOf c0) (RTg ν) Y H') Y [10, 29, 43, 46]) 0 0 (pW Y [10, 29, 43, 46]) := by
  refine Met.ofW (cc := cX10_knows) (maxL := 4) (ret := (some .int)) (by decide) rfl ?_
  intro p e s m args below meth c s₁ B hml hv
  obtain ⟨rfl, rfl, hK⟩ := hv
  have hx := B.exec
  have hb := B.bytes
  have hr := B.returns
  have hts : ∀ w ∈ wq, w.before _ s = true := fun w h => atoms_spec (ws := wz yX10_knows cX10_knows 4 (some .int)) B.pre w (List.mem_cons_of_mem _ h)
  have hown : s.vm.findClass RX10 = some m.cls := findClass_of_methodNamed B.named
  have hlocks := B.notSynchronized
  obtain ⟨R, hR⟩ : ∃ R : Room, R = ({ frames := 9, cells := 0, slots := 0, locals := 261 } : Room) := ⟨_, rfl⟩
  rw [show (headSpec (wz yX10_knows cX10_knows 4 (some .int)) { frames := 9, cells := 0, slots := 0, locals := 261 }).room = R from hR.symm]
  refine ti_mi hx hb hr hlocks (fun Q ret => ?_)
  have hl := lv_entry [.ref a0, .int x1, .int x2] (n := 4) (Nat.le_of_ble_eq_true rfl)
  rw [lg_entry_eq]
  generalize (lg_sl [.ref a0, .int x1, .int x2] ++ List.replicate (4 - (lg_sl [.ref a0, .int x1, .int x2]).length) Slot.unset).toArray = ls at hl ⊢
  have hl : lv_has ls 4 [(0, .ref a0), (1, .int x1), (2, .int x2)] := hl
  refine ti_gen (P := fun H => TI D vwCl (tysOf c0) (RTg ν) Y H) (Y := Y) (ws := [10, 29, 43, 46]) hT (fun H locs hT hS => ?_)
  refine lv_aload_n hx hb dX10_knows_0 rfl (lv_at hl 0 rfl) ?_
  refine lv_iload_n hx hb dX10_knows_1 rfl (lv_at hl 1 rfl) ?_
  refine lv_iload_n hx hb dX10_knows_2 rfl (lv_at hl 2 rfl) ?_
  refine ti_calli (va_runV (As := [.int x1, .int x2]) (rest := []) ⟨hx, hb, hml, hown, hts⟩ (t_X10_areTwo l hT ha0 (iv_w hx1 (by decide)) (iv_w hx2 (by decide)) hU) (cwV 2 hts (good_V kw_545 kw_546 kw_547 kw_5 kw_548) rfl rfl rfl (by decide +kernel) ⟨by rw [hR]; decide, by rw [hR]; decide⟩) (ti_preV hK hT ha0 rfl rfl) rfl rfl hl.1 rfl (lv_room (Nat.le_of_ble_eq_true rfl)) dX10_knows_3 ⟨Nat.zero_le _, Nat.zero_le _⟩) hS (pW_sub rfl) (fun v3 H1 locs hB hS _ hk3 => ?_)
  obtain ⟨hH, hv3, hp3⟩ := hB
  rw [hH] at hS ⊢
  refine lv_if_ne (tgt := 13) hx hb dX10_knows_6 (by decide) (fun c6 => ?_) (fun c6 => ?_)
  · skip
    have kl0 : (0 : Int32).toInt = 0 := by decide
    have f6 := i_ne c6
    have hv3_6l : iv v3 1 1 := iv_nel hv3 (iv_c (x := (0 : Int32)) (k := 0) (by decide)) c6 (by decide)
    have hx1_6p : iv x1 0 7 := by have b0a := (hx1).1; have b0b := (hx1).2; exact ⟨by omega, by omega⟩
    have hx2_6p : iv x2 0 7 := by have b0a := (hx2).1; have b0b := (hx2).2; exact ⟨by omega, by omega⟩
    refine lv_aload_n hx hb dX10_knows_13 rfl (lv_at hl 0 rfl) ?_
    refine lv_iload_n hx hb dX10_knows_14 rfl (lv_at hl 1 rfl) ?_
    refine ti_callv (va_runV (As := [.int x1]) (rest := []) ⟨hx, hb, hml, hown, hts⟩ (t_X10_guesses l hT ha0 (iv_w hx1_6p (by decide)) hU) (cwV 1 hts (good_V kw_952 kw_953 kw_954 kw_5 kw_955) rfl rfl rfl (by decide +kernel) ⟨by rw [hR]; decide, by rw [hR]; decide⟩) (ti_preV hK hT ha0 rfl rfl) rfl rfl hl.1 rfl (lv_room (Nat.le_of_ble_eq_true rfl)) dX10_knows_15 ⟨Nat.zero_le _, Nat.zero_le _⟩) hS (pW_sub rfl) (fun H locs hB hS _ hk15 => ?_)
    have hT := hB
    refine lv_aload_n hx hb dX10_knows_18 rfl (lv_at hl 0 rfl) ?_
    refine ti_getr hx hb hts inlX10 hown hK hT ha0 rfl rfl rfl 20 (by decide) (hts _ kw_140) (fun _ h9 => h9) rfl dX10_knows_19 (fun v19 hv19 hm19 => ?_)
    refine lv_iload_n hx hb dX10_knows_22 rfl (lv_at hl 2 rfl) ?_
    refine lv_aload_n hx hb dX10_knows_23 rfl (lv_at hl 0 rfl) ?_
    refine lv_iload_n hx hb dX10_knows_24 rfl (lv_at hl 2 rfl) ?_
    refine ti_calli (va_runV (As := [.int x2]) (rest := [.int x2, .ref v19]) ⟨hx, hb, hml, hown, hts⟩ (t_X10_shown l hT ha0 (iv_w hx2_6p (by decide)) hU) (cwV 1 hts (good_V kw_553 kw_554 kw_555 kw_5 kw_556) rfl rfl rfl (by decide +kernel) ⟨by rw [hR]; decide, by rw [hR]; decide⟩) (ti_preV hK hT ha0 rfl rfl) rfl rfl hl.1 rfl (lv_room (Nat.le_of_ble_eq_true rfl)) dX10_knows_25 ⟨Nat.zero_le _, Nat.zero_le _⟩) hS (pW_sub rfl) (fun v25 H1 locs hB hS _ hk25 => ?_)
    have hH := hB
    rw [hH] at hS ⊢
    refine ti_iast hx hb (aT0 hK) hT hS hv19 rfl rfl hx2_6p (by decide) (fun _ _ _ => ⟨_, _, rfl, by decide, by decide⟩) (iv_top v25) (fun _ _ => trivial) dX10_knows_28 (fun H locs hT hS oq28 he28 hk28 => ?_)
    refine lv_aload_n hx hb dX10_knows_29 rfl (lv_at hl 0 rfl) ?_
    refine lv_iload_n hx hb dX10_knows_30 rfl (lv_at hl 1 rfl) ?_
    refine ti_calli (va_runV (As := [.int x1]) (rest := []) ⟨hx, hb, hml, hown, hts⟩ (t_X10_trulyWorth l hT ha0 (iv_w hx1_6p (by decide)) hU) (cwV 1 hts (good_V kw_1279 kw_1280 kw_1281 kw_5 kw_1282) rfl rfl rfl (by decide +kernel) ⟨by rw [hR]; decide, by rw [hR]; decide⟩) (ti_preV hK hT ha0 rfl rfl) rfl rfl hl.1 rfl (lv_room (Nat.le_of_ble_eq_true rfl)) dX10_knows_31 ⟨Nat.zero_le _, Nat.zero_le _⟩) hS (pW_sub rfl) (fun v31 H locs hB hS _ hk31 => ?_)
    have hT := hB
    refine lv_istore_n (lv' := [(3, .int v31), (0, .ref a0), (1, .int x1), (2, .int x2)]) hx hb dX10_knows_34 rfl hl (by decide) rfl (fun ls hl => ?_)
    refine lv_iload_n hx hb dX10_knows_35 rfl (lv_at hl 0 rfl) ?_
    refine lv_aload_n hx hb dX10_knows_36 rfl (lv_at hl 1 rfl) ?_
    refine lv_iload_n hx hb dX10_knows_37 rfl (lv_at hl 2 rfl) ?_
    refine ti_calli (va_runV (As := [.int x1]) (rest := [.int v31]) ⟨hx, hb, hml, hown, hts⟩ (t_X10_seenWorth l hT ha0 (iv_w hx1_6p (by decide)) hU) (cwV 1 hts (good_V kw_1283 kw_1284 kw_1285 kw_5 kw_1286) rfl rfl rfl (by decide +kernel) ⟨by rw [hR]; decide, by rw [hR]; decide⟩) (ti_preV hK hT ha0 rfl rfl) rfl rfl hl.1 rfl (lv_room (Nat.le_of_ble_eq_true rfl)) dX10_knows_38 ⟨Nat.zero_le _, Nat.zero_le _⟩) hS (pW_sub rfl) (fun v38 H locs hB hS _ hk38 => ?_)
    have hT := hB
    refine lv_isub hx hb dX10_knows_41 ?_
    refine lv_topi (fun v41 e41 => ?_)
    have hv41 : iv v41 (-2147483648) 2147483647 := iv_top _
    exact ret _ _ _ _ _ dX10_knows_42 (hT) hS
  · skip
    have kl0 : (0 : Int32).toInt = 0 := by decide
    have f6 := i_eq c6
    have hv3_6l : iv v3 0 0 := iv_eql hv3 (iv_c (x := (0 : Int32)) (k := 0) (by decide)) c6 (by decide)
    refine lv_ldcw (v := (-2000000000)) hx hb hown (hts _ kw_960) dX10_knows_9 ?_
    exact ret _ _ _ _ _ dX10_knows_12 (hT) hS
set_option maxHeartbeats 4000000 in
set_option maxRecDepth 100000 in
theorem t_X10_canLend (l : Launch) {D : va_G} {c0 : Nat → ClassId} {Y : Nat → Option Nat} {ν : Nat → Nat} {H : Heap} (hT : TI D vwCl (tysOf c0) (RTg ν) Y H) {a0 : Nat} (ha0 : Y a0 = some 10) {x1 : Int32} (hx1 : iv x1 0 7) {x2 : Int32} (hx2 : iv x2 0 7) {x3 : Int32} (hx3 : iv x3 1 30) (hU : uq Y) : Met l yX10_canLend (wz yX10_canLend cX10_canLend 4 (some .boolean)) { frames := 1, cells := 0, slots := 0, locals := 22 } (TP D vwCl (tysOf c0) H [.ref a0, .int x1, .int x2, .int x3]) (TQi (fun x H' => H' = H ∧ iv x 0 1) Y []) 0 0 (pW Y []) := by
  refine Met.ofW (cc := cX10_canLend) (maxL := 4) (ret := (some .boolean)) (by decide) rfl ?_
  intro p e s m args below meth c s₁ B hml hv
  obtain ⟨rfl, rfl, hK⟩ := hv
  have hx := B.exec
  have hb := B.bytes
  have hr := B.returns
  have hts : ∀ w ∈ wq, w.before _ s = true := fun w h => atoms_spec (ws := wz yX10_canLend cX10_canLend 4 (some .boolean)) B.pre w (List.mem_cons_of_mem _ h)
  have hown : s.vm.findClass RX10 = some m.cls := findClass_of_methodNamed B.named
  have hlocks := B.notSynchronized
  obtain ⟨R, hR⟩ : ∃ R : Room, R = ({ frames := 1, cells := 0, slots := 0, locals := 22 } : Room) := ⟨_, rfl⟩
  rw [show (headSpec (wz yX10_canLend cX10_canLend 4 (some .boolean)) { frames := 1, cells := 0, slots := 0, locals := 22 }).room = R from hR.symm]
  refine ti_mz hx hb hr hlocks (fun Q ret => ?_)
  have hl := lv_entry [.ref a0, .int x1, .int x2, .int x3] (n := 4) (Nat.le_of_ble_eq_true rfl)
  rw [lg_entry_eq]
  generalize (lg_sl [.ref a0, .int x1, .int x2, .int x3] ++ List.replicate (4 - (lg_sl [.ref a0, .int x1, .int x2, .int x3]).length) Slot.unset).toArray = ls at hl ⊢
  have hl : lv_has ls 4 [(0, .ref a0), (1, .int x1), (2, .int x2), (3, .int x3)] := hl
  have hS : va_S (pW Y []) s.heap s.heap [] := va_S.rf
  refine lv_iload_n hx hb dX10_canLend_0 rfl (lv_at hl 3 rfl) ?_
  refine lv_aload_n hx hb dX10_canLend_1 rfl (lv_at hl 0 rfl) ?_
  refine lv_iload_n hx hb dX10_canLend_2 rfl (lv_at hl 1 rfl) ?_
  refine lv_iconst (v := 0) hx hb dX10_canLend_3 (by decide) ?_
  refine ti_calli (va_runV (As := [.int x1, .int (0 : Int32)]) (rest := [.int x3]) ⟨hx, hb, hml, hown, hts⟩ (t_X10_of l hT ha0 (iv_w hx1 (by decide)) (iv_w (iv_c (x := (0 : Int32)) (k := 0) (by decide)) (by decide)) hU) (cwV 2 hts (good_V kw_490 kw_491 kw_492 kw_5 kw_493) rfl rfl rfl (by decide +kernel) ⟨by rw [hR]; decide, by rw [hR]; decide⟩) (ti_preV hK hT ha0 rfl rfl) rfl rfl hl.1 rfl (lv_room (Nat.le_of_ble_eq_true rfl)) dX10_canLend_4 ⟨Nat.zero_le _, Nat.zero_le _⟩) hS (pW_sub rfl) (fun v4 H1 locs hB hS _ hk4 => ?_)
  obtain ⟨hH, hp4⟩ := hB
  rw [hH] at hS ⊢
  have kl0 : (0 : Int32).toInt = 0 := by decide
  have hf4 : iv v4 (-2147483648) 100000 := by have b0a := ((iv_top v4)).1; have b0b := ((iv_top v4)).2; exact ⟨by omega, by omega⟩
  refine lv_icmp_gt (tgt := 31) hx hb dX10_canLend_7 (by decide) (fun c7 => ?_) (fun c7 => ?_)
  · skip
    have f7 := i_lt c7
    have hv4_7l : iv v4 (-2147483648) 29 := iv_ltl hf4 hx3 c7 (by decide)
    refine lv_iconst (v := 0) hx hb dX10_canLend_31 (by decide) ?_
    exact ret _ _ _ _ _ dX10_canLend_32 (iv_w (iv_c (x := (0 : Int32)) (k := 0) (by decide)) (by decide)) (⟨rfl, iv_w (iv_c (x := (0 : Int32)) (k := 0) (by decide)) (by decide)⟩) hS
  · skip
    have f7 := i_nlt c7
    have hv4_7r : iv v4 1 100000 := iv_ler hx3 hf4 (Int32.not_lt.mp c7) (by decide)
    refine lv_aload_n hx hb dX10_canLend_10 rfl (lv_at hl 0 rfl) ?_
    refine lv_iload_n hx hb dX10_canLend_11 rfl (lv_at hl 2 rfl) ?_
    refine lv_iconst (v := 0) hx hb dX10_canLend_12 (by decide) ?_
    refine ti_calli (va_runV (As := [.int x2, .int (0 : Int32)]) (rest := []) ⟨hx, hb, hml, hown, hts⟩ (t_X10_of l hT ha0 (iv_w hx2 (by decide)) (iv_w (iv_c (x := (0 : Int32)) (k := 0) (by decide)) (by decide)) hU) (cwV 2 hts (good_V kw_490 kw_491 kw_492 kw_5 kw_493) rfl rfl rfl (by decide +kernel) ⟨by rw [hR]; decide, by rw [hR]; decide⟩) (ti_preV hK hT ha0 rfl rfl) rfl rfl hl.1 rfl (lv_room (Nat.le_of_ble_eq_true rfl)) dX10_canLend_13 ⟨Nat.zero_le _, Nat.zero_le _⟩) hS (pW_sub rfl) (fun v13 H1 locs hB hS _ hk13 => ?_)
    obtain ⟨hH, hp13⟩ := hB
    rw [hH] at hS ⊢
    have hf13 : iv v13 (-2147483648) 100000 := by have b0a := ((iv_top v13)).1; have b0b := ((iv_top v13)).2; exact ⟨by omega, by omega⟩
    refine lv_iload_n hx hb dX10_canLend_16 rfl (lv_at hl 3 rfl) ?_
    refine lv_iadd hx hb dX10_canLend_17 ?_
    refine lv_topi (fun v17 e17 => ?_)
    have hv17 : iv v17 (-2147483647) 100030 := by rw [e17]; exact iv_w (iv_add hf13 hx3 (by decide)) (by decide)
    have s17 : v17.toInt = v13.toInt + x3.toInt := by rw [e17]; exact iv_addE hf13 hx3 (by decide)
    refine lv_aload_n hx hb dX10_canLend_18 rfl (lv_at hl 0 rfl) ?_
    refine ti_getr hx hb hts inlX10 hown hK hT ha0 rfl rfl rfl 1 (by decide) (hts _ kw_130) (fun _ h9 => h9) rfl dX10_canLend_19 (fun v19 hv19 hm19 => ?_)
    refine lv_iconst (v := 1) hx hb dX10_canLend_22 (by decide) ?_
    refine ti_iald (lo := (-2147483648)) (hi := 100000) hx hb (aT0 hK) hT hv19 rfl (iv_c (x := (1 : Int32)) (k := 1) (by decide)) (by decide) (one_j 1 rfl rfl (by decide) (by decide)) dX10_canLend_23 (fun v23 hv23 hm23 => ?_)
    refine lv_icmp_gt (tgt := 31) hx hb dX10_canLend_24 (by decide) (fun c24 => ?_) (fun c24 => ?_)
    · skip
      have f24 := i_lt c24
      refine lv_iconst (v := 0) hx hb dX10_canLend_31 (by decide) ?_
      exact ret _ _ _ _ _ dX10_canLend_32 (iv_w (iv_c (x := (0 : Int32)) (k := 0) (by decide)) (by decide)) (⟨rfl, iv_w (iv_c (x := (0 : Int32)) (k := 0) (by decide)) (by decide)⟩) hS
    · skip
      have f24 := i_nlt c24
      have hv17_24l : iv v17 (-2147483647) 100000 := iv_lel hv17 hv23 (Int32.not_lt.mp c24) (by decide)
      have hv23_24r : iv v23 (-2147483647) 100000 := iv_ler hv17_24l hv23 (Int32.not_lt.mp c24) (by decide)
      have hq24_8 : iv v13 (-2147483648) 99999 := by have b0a := (hv17_24l).1; have b0b := (hv17_24l).2; have b1a := (hf13).1; have b1b := (hf13).2; have b2a := (hx3).1; have b2b := (hx3).2; exact ⟨by omega, by omega⟩
      refine lv_iconst (v := 1) hx hb dX10_canLend_27 (by decide) ?_
      refine lv_goto (tgt := 32) hx hb dX10_canLend_28 (by decide) ?_
      exact ret _ _ _ _ _ dX10_canLend_32 (iv_w (iv_c (x := (1 : Int32)) (k := 1) (by decide)) (by decide)) (⟨rfl, iv_w (iv_c (x := (1 : Int32)) (k := 1) (by decide)) (by decide)⟩) hS
