set_option maxHeartbeats 4000000 in
set_option maxRecDepth 100000 in
theorem t_X10_isWay (l : Launch) {D : va_G} {c0 : Nat → ClassId} {Y : Nat → Option Nat} {b : Bool} {H : Heap} (hT : TI D vwCl (tysOf c0) (RT1 b) Y H) {a0 : Nat} (ha0 : Y a0 = some 10) {x1 : Int32} (hx1 : iv x1 (-2147483648) 2147483647) {x2 : Int32} (hx2 : iv x2 (-2147483648) 2147483647) : Met l yX10_isWay (wz yX10_isWay cX10_isWay 3 (some .boolean)) { frames := 2, cells := 0, slots := 0, locals := 46 } (TP D vwCl (tysOf c0) H [.ref a0, .int x1, .int x2]) (TQi (fun x H' => H' = H ∧ iv x 0 0) Y) 0 0 (pA Y) := by
  refine Met.ofW (cc := cX10_isWay) (maxL := 3) (ret := (some .boolean)) (by decide) rfl ?_
  intro p e s m args below meth c s₁ B hml hv
  obtain ⟨rfl, rfl, hK⟩ := hv
  have hx := B.exec
  have hb := B.bytes
  have hr := B.returns
  have hts : ∀ w ∈ wq, w.before _ s = true := fun w h => atoms_spec (ws := wz yX10_isWay cX10_isWay 3 (some .boolean)) B.pre w (List.mem_cons_of_mem _ h)
  have hown : s.vm.findClass RX10 = some m.cls := findClass_of_methodNamed B.named
  have hlocks := B.notSynchronized
  obtain ⟨R, hR⟩ : ∃ R : Room, R = ({ frames := 2, cells := 0, slots := 0, locals := 46 } : Room) := ⟨_, rfl⟩
  rw [show (headSpec (wz yX10_isWay cX10_isWay 3 (some .boolean)) { frames := 2, cells := 0, slots := 0, locals := 46 }).room = R from hR.symm]
  refine ti_mz hx hb hr hlocks (fun Q ret => ?_)
  have hl := lv_entry [.ref a0, .int x1, .int x2] (n := 3) (Nat.le_of_ble_eq_true rfl)
  rw [lg_entry_eq]
  generalize (lg_sl [.ref a0, .int x1, .int x2] ++ List.replicate (3 - (lg_sl [.ref a0, .int x1, .int x2]).length) Slot.unset).toArray = ls at hl ⊢
  have hl : lv_has ls 3 [(0, .ref a0), (1, .int x1), (2, .int x2)] := hl
  have hS : va_S (pA Y) s.heap s.heap [] := va_S.rf
  refine lv_aload_n hx hb dX10_isWay_0 rfl (lv_at hl 0 rfl) ?_
  refine lv_iload_n hx hb dX10_isWay_1 rfl (lv_at hl 1 rfl) ?_
  refine ti_calli (va_runV (As := [.int x1]) (rest := []) ⟨hx, hb, hml, hown, hts⟩ (t_X10_isPerson l hT ha0 (iv_w hx1 (by decide))) (cwV 1 hts (good_V kw_486 kw_487 kw_488 kw_5 kw_489) rfl rfl rfl (by decide +kernel) ⟨by rw [hR]; decide, by rw [hR]; decide⟩) (ti_preV hK hT ha0 rfl rfl) rfl rfl hl.1 rfl (lv_room (Nat.le_of_ble_eq_true rfl)) dX10_isWay_2 ⟨Nat.zero_le _, Nat.zero_le _⟩) hS (fun _ h => h) (fun v2 H1 locs hB hS _ _ => ?_)
  obtain ⟨hH, hv2⟩ := hB
  rw [hH] at hS ⊢
  refine lv_if_eq (tgt := 24) hx hb dX10_isWay_5 (by decide) (fun c5 => ?_) (fun c5 => ?_)
  · skip
    have kl0 : (0 : Int32).toInt = 0 := by decide
    have f5 := i_eq c5
    refine lv_iconst (v := 0) hx hb dX10_isWay_24 (by decide) ?_
    exact ret _ _ _ _ _ dX10_isWay_25 (iv_w (iv_c (x := (0 : Int32)) (k := 0) (by decide)) (by decide)) (⟨rfl, iv_w (iv_c (x := (0 : Int32)) (k := 0) (by decide)) (by decide)⟩) hS
  · skip
    have kl0 : (0 : Int32).toInt = 0 := by decide
    have f5 := i_ne c5
    exact (iv_no (show iv v2 1 (-1) from iv_nel hv2 (iv_c (x := (0 : Int32)) (k := 0) (by decide)) c5 (by decide)) (by decide)).elim
set_option maxHeartbeats 4000000 in
set_option maxRecDepth 100000 in
theorem t_X10_canHide (l : Launch) {D : va_G} {c0 : Nat → ClassId} {Y : Nat → Option Nat} {b : Bool} {H : Heap} (hT : TI D vwCl (tysOf c0) (RT1 b) Y H) {a0 : Nat} (ha0 : Y a0 = some 10) {x1 : Int32} (hx1 : iv x1 (-2147483648) 2147483647) {x2 : Int32} (hx2 : iv x2 (-2147483648) 2147483647) : Met l yX10_canHide (wz yX10_canHide cX10_canHide 3 (some .boolean)) { frames := 2, cells := 0, slots := 0, locals := 46 } (TP D vwCl (tysOf c0) H [.ref a0, .int x1, .int x2]) (TQi (fun x H' => H' = H ∧ iv x 0 0) Y) 0 0 (pA Y) := by
  refine Met.ofW (cc := cX10_canHide) (maxL := 3) (ret := (some .boolean)) (by decide) rfl ?_
  intro p e s m args below meth c s₁ B hml hv
  obtain ⟨rfl, rfl, hK⟩ := hv
  have hx := B.exec
  have hb := B.bytes
  have hr := B.returns
  have hts : ∀ w ∈ wq, w.before _ s = true := fun w h => atoms_spec (ws := wz yX10_canHide cX10_canHide 3 (some .boolean)) B.pre w (List.mem_cons_of_mem _ h)
  have hown : s.vm.findClass RX10 = some m.cls := findClass_of_methodNamed B.named
  have hlocks := B.notSynchronized
  obtain ⟨R, hR⟩ : ∃ R : Room, R = ({ frames := 2, cells := 0, slots := 0, locals := 46 } : Room) := ⟨_, rfl⟩
  rw [show (headSpec (wz yX10_canHide cX10_canHide 3 (some .boolean)) { frames := 2, cells := 0, slots := 0, locals := 46 }).room = R from hR.symm]
  refine ti_mz hx hb hr hlocks (fun Q ret => ?_)
  have hl := lv_entry [.ref a0, .int x1, .int x2] (n := 3) (Nat.le_of_ble_eq_true rfl)
  rw [lg_entry_eq]
  generalize (lg_sl [.ref a0, .int x1, .int x2] ++ List.replicate (3 - (lg_sl [.ref a0, .int x1, .int x2]).length) Slot.unset).toArray = ls at hl ⊢
  have hl : lv_has ls 3 [(0, .ref a0), (1, .int x1), (2, .int x2)] := hl
  have hS : va_S (pA Y) s.heap s.heap [] := va_S.rf
  refine lv_aload_n hx hb dX10_canHide_0 rfl (lv_at hl 0 rfl) ?_
  refine lv_iload_n hx hb dX10_canHide_1 rfl (lv_at hl 1 rfl) ?_
  refine ti_calli (va_runV (As := [.int x1]) (rest := []) ⟨hx, hb, hml, hown, hts⟩ (t_X10_isPerson l hT ha0 (iv_w hx1 (by decide))) (cwV 1 hts (good_V kw_486 kw_487 kw_488 kw_5 kw_489) rfl rfl rfl (by decide +kernel) ⟨by rw [hR]; decide, by rw [hR]; decide⟩) (ti_preV hK hT ha0 rfl rfl) rfl rfl hl.1 rfl (lv_room (Nat.le_of_ble_eq_true rfl)) dX10_canHide_2 ⟨Nat.zero_le _, Nat.zero_le _⟩) hS (fun _ h => h) (fun v2 H1 locs hB hS _ _ => ?_)
  obtain ⟨hH, hv2⟩ := hB
  rw [hH] at hS ⊢
  refine lv_if_eq (tgt := 28) hx hb dX10_canHide_5 (by decide) (fun c5 => ?_) (fun c5 => ?_)
  · skip
    have kl0 : (0 : Int32).toInt = 0 := by decide
    have f5 := i_eq c5
    refine lv_iconst (v := 0) hx hb dX10_canHide_28 (by decide) ?_
    exact ret _ _ _ _ _ dX10_canHide_29 (iv_w (iv_c (x := (0 : Int32)) (k := 0) (by decide)) (by decide)) (⟨rfl, iv_w (iv_c (x := (0 : Int32)) (k := 0) (by decide)) (by decide)⟩) hS
  · skip
    have kl0 : (0 : Int32).toInt = 0 := by decide
    have f5 := i_ne c5
    exact (iv_no (show iv v2 1 (-1) from iv_nel hv2 (iv_c (x := (0 : Int32)) (k := 0) (by decide)) c5 (by decide)) (by decide)).elim
set_option maxHeartbeats 4000000 in
set_option maxRecDepth 100000 in
theorem t_X10_why (l : Launch) {D : va_G} {c0 : Nat → ClassId} {Y : Nat → Option Nat} {b : Bool} {H : Heap} (hT : TI D vwCl (tysOf c0) (RT1 b) Y H) {a0 : Nat} (ha0 : Y a0 = some 10) {x1 : Int32} (hx1 : iv x1 (-2147483648) 2147483647) {x2 : Int32} (hx2 : iv x2 (-2147483648) 2147483647) {x3 : Int32} (hx3 : iv x3 (-2147483648) 2147483647) {x4 : Int32} (hx4 : iv x4 (-2147483648) 2147483647) {x5 : Int32} (hx5 : iv x5 (-2147483648) 2147483647) : Met l yX10_why (wz yX10_why cX10_why 7 (some .int)) { frames := 2, cells := 0, slots := 0, locals := 46 } (TP D vwCl (tysOf c0) H [.ref a0, .int x1, .int x2, .int x3, .int x4, .int x5]) (TQi (fun x H' => H' = H ∧ iv x (-2) (-2)) Y) 0 0 (pA Y) := by
  refine Met.ofW (cc := cX10_why) (maxL := 7) (ret := (some .int)) (by decide) rfl ?_
  intro p e s m args below meth c s₁ B hml hv
  obtain ⟨rfl, rfl, hK⟩ := hv
  have hx := B.exec
  have hb := B.bytes
  have hr := B.returns
  have hts : ∀ w ∈ wq, w.before _ s = true := fun w h => atoms_spec (ws := wz yX10_why cX10_why 7 (some .int)) B.pre w (List.mem_cons_of_mem _ h)
  have hown : s.vm.findClass RX10 = some m.cls := findClass_of_methodNamed B.named
  have hlocks := B.notSynchronized
  obtain ⟨R, hR⟩ : ∃ R : Room, R = ({ frames := 2, cells := 0, slots := 0, locals := 46 } : Room) := ⟨_, rfl⟩
  rw [show (headSpec (wz yX10_why cX10_why 7 (some .int)) { frames := 2, cells := 0, slots := 0, locals := 46 }).room = R from hR.symm]
  refine ti_mi hx hb hr hlocks (fun Q ret => ?_)
  have hl := lv_entry [.ref a0, .int x1, .int x2, .int x3, .int x4, .int x5] (n := 7) (Nat.le_of_ble_eq_true rfl)
  rw [lg_entry_eq]
  generalize (lg_sl [.ref a0, .int x1, .int x2, .int x3, .int x4, .int x5] ++ List.replicate (7 - (lg_sl [.ref a0, .int x1, .int x2, .int x3, .int x4, .int x5]).length) Slot.unset).toArray = ls at hl ⊢
  have hl : lv_has ls 7 [(0, .ref a0), (1, .int x1), (2, .int x2), (3, .int x3), (4, .int x4), (5, .int x5)] := hl
  have hS : va_S (pA Y) s.heap s.heap [] := va_S.rf
  refine lv_aload_n hx hb dX10_why_0 rfl (lv_at hl 0 rfl) ?_
  refine lv_iload_n hx hb dX10_why_1 rfl (lv_at hl 1 rfl) ?_
  refine ti_calli (va_runV (As := [.int x1]) (rest := []) ⟨hx, hb, hml, hown, hts⟩ (t_X10_isPerson l hT ha0 (iv_w hx1 (by decide))) (cwV 1 hts (good_V kw_486 kw_487 kw_488 kw_5 kw_489) rfl rfl rfl (by decide +kernel) ⟨by rw [hR]; decide, by rw [hR]; decide⟩) (ti_preV hK hT ha0 rfl rfl) rfl rfl hl.1 rfl (lv_room (Nat.le_of_ble_eq_true rfl)) dX10_why_2 ⟨Nat.zero_le _, Nat.zero_le _⟩) hS (fun _ h => h) (fun v2 H1 locs hB hS _ _ => ?_)
  obtain ⟨hH, hv2⟩ := hB
  rw [hH] at hS ⊢
  have J56 : ∀  (locs : List Loc) (ls : Array Slot), va_S (pA Y) s.heap s.heap locs → lv_has ls 7 [(0, .ref a0), (1, .int x1), (2, .int x2), (3, .int x3), (4, .int x4), (5, .int x5)] → W p l e R s m ([.ref a0, .int x1, .int x2, .int x3, .int x4, .int x5] : List Value).toArray below meth c s.heap locs 0 0 Q (F0 m 56 ls [.int (0 : Int32)]) := by
    intro  locs ls  hS hl
    refine lv_istore (lv' := [(6, .int (0 : Int32)), (0, .ref a0), (1, .int x1), (2, .int x2), (3, .int x3), (4, .int x4), (5, .int x5)]) hx hb dX10_why_56 hl (by decide) rfl (fun ls hl => ?_)
    refine lv_iload hx hb dX10_why_58 (lv_at hl 0 rfl) ?_
    refine lv_if_ne (tgt := 68) hx hb dX10_why_60 (by decide) (fun c60 => ?_) (fun c60 => ?_)
    · skip
      have kl0 : (0 : Int32).toInt = 0 := by decide
      have f60 := i_ne c60
      exact (iv_no (show iv (0 : Int32) 1 (-1) from iv_nel (iv_c (x := (0 : Int32)) (k := 0) (by decide)) (iv_c (x := (0 : Int32)) (k := 0) (by decide)) c60 (by decide)) (by decide)).elim
    · skip
      have kl0 : (0 : Int32).toInt = 0 := by decide
      have f60 := i_eq c60
      refine lv_bipush (v := (-2)) hx hb dX10_why_63 (by decide) ?_
      refine lv_goto (tgt := 91) hx hb dX10_why_65 (by decide) ?_
      exact ret _ _ _ _ _ dX10_why_91 (⟨rfl, iv_w (iv_c (x := (-2 : Int32)) (k := (-2)) (by decide)) (by decide)⟩) hS
  have J55 : ∀  (locs : List Loc) (ls : Array Slot), va_S (pA Y) s.heap s.heap locs → lv_has ls 7 [(0, .ref a0), (1, .int x1), (2, .int x2), (3, .int x3), (4, .int x4), (5, .int x5)] → W p l e R s m ([.ref a0, .int x1, .int x2, .int x3, .int x4, .int x5] : List Value).toArray below meth c s.heap locs 0 0 Q (F0 m 55 ls []) := by
    intro  locs ls  hS hl
    refine lv_iconst (v := 0) hx hb dX10_why_55 (by decide) ?_
    exact J56  _ _    hS (lv_sub hl [0, 1, 2, 3, 4, 5] rfl)
  refine lv_if_eq (tgt := 55) hx hb dX10_why_5 (by decide) (fun c5 => ?_) (fun c5 => ?_)
  · skip
    have kl0 : (0 : Int32).toInt = 0 := by decide
    have f5 := i_eq c5
    exact J55  _ _    hS (lv_sub hl [0, 1, 2, 3, 4, 5] rfl)
  · skip
    have kl0 : (0 : Int32).toInt = 0 := by decide
    have f5 := i_ne c5
    exact (iv_no (show iv v2 1 (-1) from iv_nel hv2 (iv_c (x := (0 : Int32)) (k := 0) (by decide)) c5 (by decide)) (by decide)).elim
set_option maxHeartbeats 4000000 in
set_option maxRecDepth 100000 in
theorem t_X10_see (l : Launch) {D : va_G} {c0 : Nat → ClassId} {Y : Nat → Option Nat} {b : Bool} {H : Heap} (hT : TI D vwCl (tysOf c0) (RT1 b) Y H) {a0 : Nat} (ha0 : Y a0 = some 10) {x1 : Int32} (hx1 : iv x1 0 0) : Met l yX10_see (wz yX10_see cX10_see 2 (some .int)) { frames := 0, cells := 0, slots := 0, locals := 0 } (TP D vwCl (tysOf c0) H [.ref a0, .int x1]) (TQi (fun x H' => H' = H ∧ iv x (-1) (-1)) Y) 0 0 (pA Y) := by
  refine Met.ofW (cc := cX10_see) (maxL := 2) (ret := (some .int)) (by decide) rfl ?_
  intro p e s m args below meth c s₁ B hml hv
  obtain ⟨rfl, rfl, hK⟩ := hv
  have hx := B.exec
  have hb := B.bytes
  have hr := B.returns
  have hts : ∀ w ∈ wq, w.before _ s = true := fun w h => atoms_spec (ws := wz yX10_see cX10_see 2 (some .int)) B.pre w (List.mem_cons_of_mem _ h)
  have hown : s.vm.findClass RX10 = some m.cls := findClass_of_methodNamed B.named
  have hlocks := B.notSynchronized
  obtain ⟨R, hR⟩ : ∃ R : Room, R = ({ frames := 0, cells := 0, slots := 0, locals := 0 } : Room) := ⟨_, rfl⟩
  rw [show (headSpec (wz yX10_see cX10_see 2 (some .int)) { frames := 0, cells := 0, slots := 0, locals := 0 }).room = R from hR.symm]
  refine ti_mi hx hb hr hlocks (fun Q ret => ?_)
  have hl := lv_entry [.ref a0, .int x1] (n := 2) (Nat.le_of_ble_eq_true rfl)
  rw [lg_entry_eq]
  generalize (lg_sl [.ref a0, .int x1] ++ List.replicate (2 - (lg_sl [.ref a0, .int x1]).length) Slot.unset).toArray = ls at hl ⊢
  have hl : lv_has ls 2 [(0, .ref a0), (1, .int x1)] := hl
  have hS : va_S (pA Y) s.heap s.heap [] := va_S.rf
  refine lv_iload_n hx hb dX10_see_0 rfl (lv_at hl 1 rfl) ?_
  refine lv_aload_n hx hb dX10_see_1 rfl (lv_at hl 0 rfl) ?_
  refine ti_geti hx hb hts inlX10 hown hK hT ha0 rfl rfl 8 (by decide) (hts _ kw_378) (fun _ h9 => h9) rfl dX10_see_2 (fun v2 hv2 => ?_)
  refine lv_icmp_ge (tgt := 21) hx hb dX10_see_5 (by decide) (fun c5 => ?_) (fun c5 => ?_)
  · skip
    have f5 := i_le c5
    refine lv_iconst (v := (-1)) hx hb dX10_see_21 (by decide) ?_
    exact ret _ _ _ _ _ dX10_see_22 (⟨rfl, iv_w (iv_c (x := (-1 : Int32)) (k := (-1)) (by decide)) (by decide)⟩) hS
  · skip
    have f5 := i_nle c5
    exact (iv_no (show iv x1 0 (-1) from iv_ltl hx1 hv2 (Int32.not_le.mp c5) (by decide)) (by decide)).elim
set_option maxHeartbeats 4000000 in
set_option maxRecDepth 100000 in
theorem t_X10_good (l : Launch) {D : va_G} {c0 : Nat → ClassId} {Y : Nat → Option Nat} {b : Bool} {H : Heap} (hT : TI D vwCl (tysOf c0) (RT1 b) Y H) {a0 : Nat} (ha0 : Y a0 = some 10) : Met l yX10_good (wz yX10_good cX10_good 1 (some .boolean)) { frames := 0, cells := 0, slots := 0, locals := 0 } (TP D vwCl (tysOf c0) H [.ref a0]) (TQi (fun x H' => H' = H ∧ iv x 1 1) Y) 0 0 (pA Y) := by
  refine Met.ofW (cc := cX10_good) (maxL := 1) (ret := (some .boolean)) (by decide) rfl ?_
  intro p e s m args below meth c s₁ B hml hv
  obtain ⟨rfl, rfl, hK⟩ := hv
  have hx := B.exec
  have hb := B.bytes
  have hr := B.returns
  have hts : ∀ w ∈ wq, w.before _ s = true := fun w h => atoms_spec (ws := wz yX10_good cX10_good 1 (some .boolean)) B.pre w (List.mem_cons_of_mem _ h)
  have hown : s.vm.findClass RX10 = some m.cls := findClass_of_methodNamed B.named
  have hlocks := B.notSynchronized
  obtain ⟨R, hR⟩ : ∃ R : Room, R = ({ frames := 0, cells := 0, slots := 0, locals := 0 } : Room) := ⟨_, rfl⟩
  rw [show (headSpec (wz yX10_good cX10_good 1 (some .boolean)) { frames := 0, cells := 0, slots := 0, locals := 0 }).room = R from hR.symm]
  refine ti_mz hx hb hr hlocks (fun Q ret => ?_)
  have hl := lv_entry [.ref a0] (n := 1) (Nat.le_of_ble_eq_true rfl)
  rw [lg_entry_eq]
  generalize (lg_sl [.ref a0] ++ List.replicate (1 - (lg_sl [.ref a0]).length) Slot.unset).toArray = ls at hl ⊢
  have hl : lv_has ls 1 [(0, .ref a0)] := hl
  have hS : va_S (pA Y) s.heap s.heap [] := va_S.rf
  refine lv_aload_n hx hb dX10_good_0 rfl (lv_at hl 0 rfl) ?_
  refine ti_geti hx hb hts inlX10 hown hK hT ha0 rfl rfl 13 (by decide) (hts _ kw_380) (fun _ h9 => h9) rfl dX10_good_1 (fun v1 hv1 => ?_)
  refine lv_if_ne (tgt := 11) hx hb dX10_good_4 (by decide) (fun c4 => ?_) (fun c4 => ?_)
  · skip
    have kl0 : (0 : Int32).toInt = 0 := by decide
    have f4 := i_ne c4
    exact (iv_no (show iv v1 1 (-1) from iv_nel hv1 (iv_c (x := (0 : Int32)) (k := 0) (by decide)) c4 (by decide)) (by decide)).elim
  · skip
    have kl0 : (0 : Int32).toInt = 0 := by decide
    have f4 := i_eq c4
    refine lv_iconst (v := 1) hx hb dX10_good_7 (by decide) ?_
    refine lv_goto (tgt := 12) hx hb dX10_good_8 (by decide) ?_
    exact ret _ _ _ _ _ dX10_good_12 (iv_w (iv_c (x := (1 : Int32)) (k := 1) (by decide)) (by decide)) (⟨rfl, iv_w (iv_c (x := (1 : Int32)) (k := 1) (by decide)) (by decide)⟩) hS
set_option maxHeartbeats 4000000 in
set_option maxRecDepth 100000 in
theorem t_X10_advance (l : Launch) {D : va_G} {c0 : Nat → ClassId} {Y : Nat → Option Nat} {b : Bool} {H : Heap} (hT : TI D vwCl (tysOf c0) (RT1 b) Y H) {a0 : Nat} (ha0 : Y a0 = some 10) : Met l yX10_advance (wz yX10_advance cX10_advance 2 none) { frames := 1, cells := 0, slots := 0, locals := 21 } (TP D vwCl (tysOf c0) H [.ref a0]) (TQv (fun H' => TI D vwCl (tysOf c0) (RT1 b) Y H') Y) 0 0 (pA Y) := by
  refine Met.ofW (cc := cX10_advance) (maxL := 2) (ret := none) (by decide) rfl ?_
  intro p e s m args below meth c s₁ B hml hv
  obtain ⟨rfl, rfl, hK⟩ := hv
  have hx := B.exec
  have hb := B.bytes
  have hr := B.returns
  have hts : ∀ w ∈ wq, w.before _ s = true := fun w h => atoms_spec (ws := wz yX10_advance cX10_advance 2 none) B.pre w (List.mem_cons_of_mem _ h)
  have hown : s.vm.findClass RX10 = some m.cls := findClass_of_methodNamed B.named
  have hlocks := B.notSynchronized
  obtain ⟨R, hR⟩ : ∃ R : Room, R = ({ frames := 1, cells := 0, slots := 0, locals := 21 } : Room) := ⟨_, rfl⟩
  rw [show (headSpec (wz yX10_advance cX10_advance 2 none) { frames := 1, cells := 0, slots := 0, locals := 21 }).room = R from hR.symm]
  refine ti_mv hx hb hr hlocks (fun Q ret => ?_)
  have hl := lv_entry [.ref a0] (n := 2) (Nat.le_of_ble_eq_true rfl)
  rw [lg_entry_eq]
  generalize (lg_sl [.ref a0] ++ List.replicate (2 - (lg_sl [.ref a0]).length) Slot.unset).toArray = ls at hl ⊢
  have hl : lv_has ls 2 [(0, .ref a0)] := hl
  refine ti_gen (P := fun H => TI D vwCl (tysOf c0) (RT1 b) Y H) (Y := Y) hT (fun H locs hT hS => ?_)
  refine lv_aload_n hx hb dX10_advance_0 rfl (lv_at hl 0 rfl) ?_
  refine lv_aload_n hx hb dX10_advance_1 rfl (lv_at hl 0 rfl) ?_
  refine ti_geti hx hb hts inlX10 hown hK hT ha0 rfl rfl 9 (by decide) (hts _ kw_379) (fun _ h9 => h9) rfl dX10_advance_2 (fun v2 hv2 => ?_)
  refine ti_calli (va_runV (As := [.int v2]) (rest := []) ⟨hx, hb, hml, hown, hts⟩ (t_X10_see l hT ha0 (iv_w hv2 (by decide))) (cwV 1 hts (good_V kw_395 kw_396 kw_397 kw_5 kw_398) rfl rfl rfl (by decide +kernel) ⟨by rw [hR]; decide, by rw [hR]; decide⟩) (ti_preV hK hT ha0 rfl rfl) rfl rfl hl.1 rfl (lv_room (Nat.le_of_ble_eq_true rfl)) dX10_advance_5 ⟨Nat.zero_le _, Nat.zero_le _⟩) hS (fun _ h => h) (fun v5 H1 locs hB hS _ _ => ?_)
  obtain ⟨hH, hv5⟩ := hB
  rw [hH] at hS ⊢
  refine lv_bipush (v := 32) hx hb dX10_advance_8 (by decide) ?_
  refine lv_icmp_eq (tgt := 26) hx hb dX10_advance_10 (by decide) (fun c10 => ?_) (fun c10 => ?_)
  · skip
    have kl32 : (32 : Int32).toInt = 32 := by decide
    have f10 := i_eq c10
    exact (iv_no (show iv v5 32 (-1) from iv_eql hv5 (iv_c (x := (32 : Int32)) (k := 32) (by decide)) c10 (by decide)) (by decide)).elim
  · skip
    have kl32 : (32 : Int32).toInt = 32 := by decide
    have f10 := i_ne c10
    refine lv_aload_n hx hb dX10_advance_13 rfl (lv_at hl 0 rfl) ?_
    refine lv_aload_n hx hb dX10_advance_14 rfl (lv_at hl 0 rfl) ?_
    refine ti_geti hx hb hts inlX10 hown hK hT ha0 rfl rfl 9 (by decide) (hts _ kw_379) (fun _ h9 => h9) rfl dX10_advance_15 (fun v15 hv15 => ?_)
    refine ti_calli (va_runV (As := [.int v15]) (rest := []) ⟨hx, hb, hml, hown, hts⟩ (t_X10_see l hT ha0 (iv_w hv15 (by decide))) (cwV 1 hts (good_V kw_395 kw_396 kw_397 kw_5 kw_398) rfl rfl rfl (by decide +kernel) ⟨by rw [hR]; decide, by rw [hR]; decide⟩) (ti_preV hK hT ha0 rfl rfl) rfl rfl hl.1 rfl (lv_room (Nat.le_of_ble_eq_true rfl)) dX10_advance_18 ⟨Nat.zero_le _, Nat.zero_le _⟩) hS (fun _ h => h) (fun v18 H1 locs hB hS _ _ => ?_)
    obtain ⟨hH, hv18⟩ := hB
    rw [hH] at hS ⊢
    refine lv_bipush (v := 10) hx hb dX10_advance_21 (by decide) ?_
    refine lv_icmp_ne (tgt := 39) hx hb dX10_advance_23 (by decide) (fun c23 => ?_) (fun c23 => ?_)
    · skip
      have kl10 : (10 : Int32).toInt = 10 := by decide
      have f23 := i_ne c23
      refine lv_aload_n hx hb dX10_advance_39 rfl (lv_at hl 0 rfl) ?_
      refine lv_aload_n hx hb dX10_advance_40 rfl (lv_at hl 0 rfl) ?_
      refine ti_geti hx hb hts inlX10 hown hK hT ha0 rfl rfl 9 (by decide) (hts _ kw_379) (fun _ h9 => h9) rfl dX10_advance_41 (fun v41 hv41 => ?_)
      refine ti_put (ty := .int) hx hb hts inlX10 tyX10 tyX10_ok nmX10 hown hK hT hS ha0 rfl rfl 10 (by decide) (hts _ kw_387) (fun _ h9 => h9) rfl rfl (by decide +kernel) rfl rfl ⟨v41, rfl, iv_w hv41 (by decide)⟩ dX10_advance_44 (fun H locs hT hS => ?_)
      refine lv_aload_n hx hb dX10_advance_47 rfl (lv_at hl 0 rfl) ?_
      refine lv_aload_n hx hb dX10_advance_48 rfl (lv_at hl 0 rfl) ?_
      refine ti_geti hx hb hts inlX10 hown hK hT ha0 rfl rfl 9 (by decide) (hts _ kw_379) (fun _ h9 => h9) rfl dX10_advance_49 (fun v49 hv49 => ?_)
      refine ti_calli (va_runV (As := [.int v49]) (rest := []) ⟨hx, hb, hml, hown, hts⟩ (t_X10_see l hT ha0 (iv_w hv49 (by decide))) (cwV 1 hts (good_V kw_395 kw_396 kw_397 kw_5 kw_398) rfl rfl rfl (by decide +kernel) ⟨by rw [hR]; decide, by rw [hR]; decide⟩) (ti_preV hK hT ha0 rfl rfl) rfl rfl hl.1 rfl (lv_room (Nat.le_of_ble_eq_true rfl)) dX10_advance_52 ⟨Nat.zero_le _, Nat.zero_le _⟩) hS (fun _ h => h) (fun v52 H1 locs hB hS _ _ => ?_)
      obtain ⟨hH, hv52⟩ := hB
      rw [hH] at hS ⊢
      refine lv_istore_n (lv' := [(1, .int v52), (0, .ref a0)]) hx hb dX10_advance_55 rfl hl (by decide) rfl (fun ls hl => ?_)
      refine lv_iload_n hx hb dX10_advance_56 rfl (lv_at hl 0 rfl) ?_
      refine lv_iconst (v := (-1)) hx hb dX10_advance_57 (by decide) ?_
      refine lv_icmp_ne (tgt := 69) hx hb dX10_advance_58 (by decide) (fun c58 => ?_) (fun c58 => ?_)
      · skip
        have klm1 : (-1 : Int32).toInt = (-1) := by decide
        have f58 := i_ne c58
        exact (iv_no (show iv v52 0 (-2) from iv_nel hv52 (iv_c (x := (-1 : Int32)) (k := (-1)) (by decide)) c58 (by decide)) (by decide)).elim
      · skip
        have klm1 : (-1 : Int32).toInt = (-1) := by decide
        have f58 := i_eq c58
        refine lv_aload_n hx hb dX10_advance_61 rfl (lv_at hl 1 rfl) ?_
        refine lv_iconst (v := 0) hx hb dX10_advance_62 (by decide) ?_
        refine ti_put (ty := .int) hx hb hts inlX10 tyX10 tyX10_ok nmX10 hown hK hT hS ha0 rfl rfl 11 (by decide) (hts _ kw_381) (fun _ h9 => h9) rfl rfl (by decide +kernel) rfl rfl ⟨(0 : Int32), rfl, iv_w (iv_c (x := (0 : Int32)) (k := 0) (by decide)) (by decide)⟩ dX10_advance_63 (fun H locs hT hS => ?_)
        refine lv_goto (tgt := 239) hx hb dX10_advance_66 (by decide) ?_
        exact ret _ _ _ _ dX10_advance_239 (hT) hS
    · skip
      have kl10 : (10 : Int32).toInt = 10 := by decide
      have f23 := i_eq c23
      exact (iv_no (show iv v18 10 (-1) from iv_eql hv18 (iv_c (x := (10 : Int32)) (k := 10) (by decide)) c23 (by decide)) (by decide)).elim
set_option maxHeartbeats 4000000 in
set_option maxRecDepth 100000 in
theorem t_X10_spreadOf (l : Launch) {D : va_G} {c0 : Nat → ClassId} {Y : Nat → Option Nat} {b : Bool} {H : Heap} (hT : TI D vwCl (tysOf c0) (RT1 b) Y H) {a0 : Nat} (ha0 : Y a0 = some 10) : Met l yX10_spreadOf (wz yX10_spreadOf cX10_spreadOf 4 (some .int)) { frames := 1, cells := 0, slots := 0, locals := 20 } (TP D vwCl (tysOf c0) H [.ref a0]) (TQi (fun x H' => H' = H ∧ iv x 0 0) Y) 0 0 (pA Y) := by
  refine Met.ofW (cc := cX10_spreadOf) (maxL := 4) (ret := (some .int)) (by decide) rfl ?_
  intro p e s m args below meth c s₁ B hml hv
  obtain ⟨rfl, rfl, hK⟩ := hv
  have hx := B.exec
  have hb := B.bytes
  have hr := B.returns
  have hts : ∀ w ∈ wq, w.before _ s = true := fun w h => atoms_spec (ws := wz yX10_spreadOf cX10_spreadOf 4 (some .int)) B.pre w (List.mem_cons_of_mem _ h)
  have hown : s.vm.findClass RX10 = some m.cls := findClass_of_methodNamed B.named
  have hlocks := B.notSynchronized
  obtain ⟨R, hR⟩ : ∃ R : Room, R = ({ frames := 1, cells := 0, slots := 0, locals := 20 } : Room) := ⟨_, rfl⟩
  rw [show (headSpec (wz yX10_spreadOf cX10_spreadOf 4 (some .int)) { frames := 1, cells := 0, slots := 0, locals := 20 }).room = R from hR.symm]
  refine ti_mi hx hb hr hlocks (fun Q ret => ?_)
  have hl := lv_entry [.ref a0] (n := 4) (Nat.le_of_ble_eq_true rfl)
  rw [lg_entry_eq]
  generalize (lg_sl [.ref a0] ++ List.replicate (4 - (lg_sl [.ref a0]).length) Slot.unset).toArray = ls at hl ⊢
  have hl : lv_has ls 4 [(0, .ref a0)] := hl
  have hS : va_S (pA Y) s.heap s.heap [] := va_S.rf
  refine lv_iconst (v := 0) hx hb dX10_spreadOf_0 (by decide) ?_
  refine lv_istore_n (lv' := [(1, .int (0 : Int32)), (0, .ref a0)]) hx hb dX10_spreadOf_1 rfl hl (by decide) rfl (fun ls hl => ?_)
  refine lv_iconst (v := 0) hx hb dX10_spreadOf_2 (by decide) ?_
  have J4 : ∀  (locs : List Loc) (ls : Array Slot), va_S (pA Y) s.heap s.heap locs → lv_has ls 4 [(0, .ref a0), (1, .int (0 : Int32)), (2, .int (0 : Int32))] → W p l e R s m ([.ref a0] : List Value).toArray below meth c s.heap locs 0 0 Q (F0 m 4 ls []) := by
    intro  locs ls  hS hl
    refine lv_iload_n hx hb dX10_spreadOf_4 rfl (lv_at hl 2 rfl) ?_
    refine lv_aload_n hx hb dX10_spreadOf_5 rfl (lv_at hl 0 rfl) ?_
    refine ti_calli (va_runV (As := []) (rest := [.int (0 : Int32)]) ⟨hx, hb, hml, hown, hts⟩ (t_X10_people l hT ha0) (cwV 0 hts (good_V kw_605 kw_606 kw_607 kw_5 kw_608) rfl rfl rfl (by decide +kernel) ⟨by rw [hR]; decide, by rw [hR]; decide⟩) (ti_preV hK hT ha0 rfl rfl) rfl rfl hl.1 rfl (lv_room (Nat.le_of_ble_eq_true rfl)) dX10_spreadOf_6 ⟨Nat.zero_le _, Nat.zero_le _⟩) hS (fun _ h => h) (fun v6 H1 locs hB hS _ _ => ?_)
    obtain ⟨hH, hv6⟩ := hB
    rw [hH] at hS ⊢
    refine lv_icmp_ge (tgt := 50) hx hb dX10_spreadOf_9 (by decide) (fun c9 => ?_) (fun c9 => ?_)
    · skip
      have kl0 : (0 : Int32).toInt = 0 := by decide
      have f9 := i_le c9
      refine lv_iload_n hx hb dX10_spreadOf_50 rfl (lv_at hl 1 rfl) ?_
      exact ret _ _ _ _ _ dX10_spreadOf_51 (⟨rfl, iv_w (iv_c (x := (0 : Int32)) (k := 0) (by decide)) (by decide)⟩) hS
    · skip
      have kl0 : (0 : Int32).toInt = 0 := by decide
      have f9 := i_nle c9
      exact (iv_no (show iv (0 : Int32) 0 (-1) from iv_ltl (iv_c (x := (0 : Int32)) (k := 0) (by decide)) hv6 (Int32.not_le.mp c9) (by decide)) (by decide)).elim
  refine lv_istore_n (lv' := [(2, .int (0 : Int32)), (1, .int (0 : Int32)), (0, .ref a0)]) hx hb dX10_spreadOf_3 rfl hl (by decide) rfl (fun ls hl => ?_)
  exact J4  _ _    hS (lv_sub hl [2, 1, 0] rfl)
set_option maxHeartbeats 4000000 in
set_option maxRecDepth 100000 in
theorem t_X9_end (l : Launch) {D : va_G} {c0 : Nat → ClassId} {Y : Nat → Option Nat} {H : Heap} (hT : TI D vwCl (tysOf c0) (RT1 false) Y H) {a0 : Nat} (ha0 : Y a0 = some 9) {x1 : Int32} (hx1 : iv x1 (-2147483648) 2147483647) : Met l yX9_end (wz yX9_end cX9_end 2 (some .int)) { frames := 0, cells := 0, slots := 0, locals := 0 } (TP D vwCl (tysOf c0) H [.ref a0, .int x1]) (TQi (fun x H' => TI D vwCl (tysOf c0) (RT1 false) Y H' ∧ ((x1.toInt = 0 ∧ x.toInt = 0) ∨ (¬ x1.toInt = 0 ∧ x.toInt = -1))) Y) 0 0 (pA Y) := by
  refine Met.ofW (cc := cX9_end) (maxL := 2) (ret := (some .int)) (by decide) rfl ?_
  intro p e s m args below meth c s₁ B hml hv
  obtain ⟨rfl, rfl, hK⟩ := hv
  have hx := B.exec
  have hb := B.bytes
  have hr := B.returns
  have hts : ∀ w ∈ wq, w.before _ s = true := fun w h => atoms_spec (ws := wz yX9_end cX9_end 2 (some .int)) B.pre w (List.mem_cons_of_mem _ h)
  have hown : s.vm.findClass RX9 = some m.cls := findClass_of_methodNamed B.named
  have hlocks := B.notSynchronized
  obtain ⟨R, hR⟩ : ∃ R : Room, R = ({ frames := 0, cells := 0, slots := 0, locals := 0 } : Room) := ⟨_, rfl⟩
  rw [show (headSpec (wz yX9_end cX9_end 2 (some .int)) { frames := 0, cells := 0, slots := 0, locals := 0 }).room = R from hR.symm]
  refine ti_mi hx hb hr hlocks (fun Q ret => ?_)
  have hl := lv_entry [.ref a0, .int x1] (n := 2) (Nat.le_of_ble_eq_true rfl)
  rw [lg_entry_eq]
  generalize (lg_sl [.ref a0, .int x1] ++ List.replicate (2 - (lg_sl [.ref a0, .int x1]).length) Slot.unset).toArray = ls at hl ⊢
  have hl : lv_has ls 2 [(0, .ref a0), (1, .int x1)] := hl
  refine ti_gen (P := fun H => TI D vwCl (tysOf c0) (RT1 false) Y H) (Y := Y) hT (fun H locs hT hS => ?_)
  refine lv_iload_n hx hb dX9_end_0 rfl (lv_at hl 1 rfl) ?_
  refine lv_if_lt (tgt := 15) hx hb dX9_end_1 (by decide) (fun c1 => ?_) (fun c1 => ?_)
  · skip
    have kl0 : (0 : Int32).toInt = 0 := by decide
    have f1 := i_lt c1
    have hx1_1l : iv x1 (-2147483648) (-1) := iv_ltl hx1 (iv_c (x := (0 : Int32)) (k := 0) (by decide)) c1 (by decide)
    refine lv_iconst (v := (-1)) hx hb dX9_end_15 (by decide) ?_
    have klm1 : (-1 : Int32).toInt = (-1) := by decide
    exact ret _ _ _ _ _ dX9_end_16 (⟨hT, by have b0a := (hx1_1l).1; have b0b := (hx1_1l).2; omega⟩) hS
  · skip
    have kl0 : (0 : Int32).toInt = 0 := by decide
    have f1 := i_nlt c1
    have hx1_1r : iv x1 0 2147483647 := iv_ler (iv_c (x := (0 : Int32)) (k := 0) (by decide)) hx1 (Int32.not_lt.mp c1) (by decide)
    refine lv_iload_n hx hb dX9_end_4 rfl (lv_at hl 1 rfl) ?_
    refine lv_aload_n hx hb dX9_end_5 rfl (lv_at hl 0 rfl) ?_
    refine ti_getr hx hb hts inlX9 hown hK hT ha0 rfl rfl 0 (by decide) (hts _ kw_16) (fun _ h9 => h9) rfl dX9_end_6 (fun v6 hv6 => ?_)
    refine ti_geti hx hb hts inlX6 hown hK hT hv6 rfl rfl 1 (by decide) (hts _ kw_162) (fun _ h9 => h9) rfl dX9_end_9 (fun v9 hv9 => ?_)
    refine lv_icmp_le (tgt := 17) hx hb dX9_end_12 (by decide) (fun c12 => ?_) (fun c12 => ?_)
    · skip
      have f12 := i_le c12
      have hx1_12l : iv x1 0 0 := iv_lel hx1_1r hv9 c12 (by decide)
      refine lv_aload_n hx hb dX9_end_17 rfl (lv_at hl 0 rfl) ?_
      refine ti_getr hx hb hts inlX9 hown hK hT ha0 rfl rfl 0 (by decide) (hts _ kw_16) (fun _ h9 => h9) rfl dX9_end_18 (fun v18 hv18 => ?_)
      refine lv_iload_n hx hb dX9_end_21 rfl (lv_at hl 1 rfl) ?_
      refine ti_put (ty := .int) hx hb hts inlX6 tyX6 tyX6_ok nmX6 hown hK hT hS hv18 rfl rfl 1 (by decide) (hts _ kw_162) (fun _ h9 => h9) rfl rfl (by decide +kernel) rfl rfl ⟨x1, rfl, iv_w hx1_12l (by decide)⟩ dX9_end_22 (fun H locs hT hS => ?_)
      refine lv_iload_n hx hb dX9_end_25 rfl (lv_at hl 1 rfl) ?_
      exact ret _ _ _ _ _ dX9_end_26 (⟨hT, by have b0a := (hx1_12l).1; have b0b := (hx1_12l).2; have b1a := (hv9).1; have b1b := (hv9).2; omega⟩) hS
    · skip
      have f12 := i_nle c12
      have hx1_12r : iv x1 1 2147483647 := iv_ltr hv9 hx1_1r (Int32.not_le.mp c12) (by decide)
      refine lv_iconst (v := (-1)) hx hb dX9_end_15 (by decide) ?_
      have klm1 : (-1 : Int32).toInt = (-1) := by decide
      exact ret _ _ _ _ _ dX9_end_16 (⟨hT, by have b0a := (hx1_12r).1; have b0b := (hx1_12r).2; have b1a := (hv9).1; have b1b := (hv9).2; omega⟩) hS
set_option maxHeartbeats 4000000 in
set_option maxRecDepth 100000 in
theorem t_X9_fault (l : Launch) {D : va_G} {c0 : Nat → ClassId} {Y : Nat → Option Nat} {H : Heap} (hT : TI D vwCl (tysOf c0) (RT1 false) Y H) {a0 : Nat} (ha0 : Y a0 = some 9) {x1 : Int32} (hx1 : iv x1 (-2147483648) 2147483647) : Met l yX9_fault (wz yX9_fault cX9_fault 2 (some .int)) { frames := 0, cells := 0, slots := 0, locals := 0 } (TP D vwCl (tysOf c0) H [.ref a0, .int x1]) (TQi (fun x H' => H' = H ∧ ((x1.toInt = 0 ∧ x.toInt = 0) ∨ (¬ x1.toInt = 0 ∧ x.toInt = -1))) Y) 0 0 (pA Y) := by
  refine Met.ofW (cc := cX9_fault) (maxL := 2) (ret := (some .int)) (by decide) rfl ?_
  intro p e s m args below meth c s₁ B hml hv
  obtain ⟨rfl, rfl, hK⟩ := hv
  have hx := B.exec
  have hb := B.bytes
  have hr := B.returns
  have hts : ∀ w ∈ wq, w.before _ s = true := fun w h => atoms_spec (ws := wz yX9_fault cX9_fault 2 (some .int)) B.pre w (List.mem_cons_of_mem _ h)
  have hown : s.vm.findClass RX9 = some m.cls := findClass_of_methodNamed B.named
  have hlocks := B.notSynchronized
  obtain ⟨R, hR⟩ : ∃ R : Room, R = ({ frames := 0, cells := 0, slots := 0, locals := 0 } : Room) := ⟨_, rfl⟩
  rw [show (headSpec (wz yX9_fault cX9_fault 2 (some .int)) { frames := 0, cells := 0, slots := 0, locals := 0 }).room = R from hR.symm]
  refine ti_mi hx hb hr hlocks (fun Q ret => ?_)
  have hl := lv_entry [.ref a0, .int x1] (n := 2) (Nat.le_of_ble_eq_true rfl)
  rw [lg_entry_eq]
  generalize (lg_sl [.ref a0, .int x1] ++ List.replicate (2 - (lg_sl [.ref a0, .int x1]).length) Slot.unset).toArray = ls at hl ⊢
  have hl : lv_has ls 2 [(0, .ref a0), (1, .int x1)] := hl
  have hS : va_S (pA Y) s.heap s.heap [] := va_S.rf
  refine lv_iload_n hx hb dX9_fault_0 rfl (lv_at hl 1 rfl) ?_
  refine lv_if_ne (tgt := 12) hx hb dX9_fault_1 (by decide) (fun c1 => ?_) (fun c1 => ?_)
  · skip
    have kl0 : (0 : Int32).toInt = 0 := by decide
    have f1 := i_ne c1
    refine lv_iload_n hx hb dX9_fault_12 rfl (lv_at hl 1 rfl) ?_
    refine lv_iconst (v := 1) hx hb dX9_fault_13 (by decide) ?_
    refine lv_icmp_ne (tgt := 27) hx hb dX9_fault_14 (by decide) (fun c14 => ?_) (fun c14 => ?_)
    · skip
      have kl1 : (1 : Int32).toInt = 1 := by decide
      have f14 := i_ne c14
      refine lv_iconst (v := (-1)) hx hb dX9_fault_27 (by decide) ?_
      have klm1 : (-1 : Int32).toInt = (-1) := by decide
      exact ret _ _ _ _ _ dX9_fault_28 (⟨rfl, by have b0a := (hx1).1; have b0b := (hx1).2; omega⟩) hS
    · skip
      have kl1 : (1 : Int32).toInt = 1 := by decide
      have f14 := i_eq c14
      have hx1_14l : iv x1 1 1 := iv_eql hx1 (iv_c (x := (1 : Int32)) (k := 1) (by decide)) c14 (by decide)
      refine lv_aload_n hx hb dX9_fault_17 rfl (lv_at hl 0 rfl) ?_
      refine ti_getr hx hb hts inlX9 hown hK hT ha0 rfl rfl 0 (by decide) (hts _ kw_16) (fun _ h9 => h9) rfl dX9_fault_18 (fun v18 hv18 => ?_)
      refine ti_geti hx hb hts inlX6 hown hK hT hv18 rfl rfl 11 (by decide) (hts _ kw_462) (fun _ h9 => h9) rfl dX9_fault_21 (fun v21 hv21 => ?_)
      refine lv_goto (tgt := 28) hx hb dX9_fault_24 (by decide) ?_
      exact ret _ _ _ _ _ dX9_fault_28 (⟨rfl, by have b0a := (hx1_14l).1; have b0b := (hx1_14l).2; have b1a := (hv21).1; have b1b := (hv21).2; omega⟩) hS
  · skip
    have kl0 : (0 : Int32).toInt = 0 := by decide
    have f1 := i_eq c1
    have hx1_1l : iv x1 0 0 := iv_eql hx1 (iv_c (x := (0 : Int32)) (k := 0) (by decide)) c1 (by decide)
    refine lv_aload_n hx hb dX9_fault_4 rfl (lv_at hl 0 rfl) ?_
    refine ti_getr hx hb hts inlX9 hown hK hT ha0 rfl rfl 0 (by decide) (hts _ kw_16) (fun _ h9 => h9) rfl dX9_fault_5 (fun v5 hv5 => ?_)
    refine ti_geti hx hb hts inlX6 hown hK hT hv5 rfl rfl 10 (by decide) (hts _ kw_461) (fun _ h9 => h9) rfl dX9_fault_8 (fun v8 hv8 => ?_)
    exact ret _ _ _ _ _ dX9_fault_11 (⟨rfl, by have b0a := (hx1_1l).1; have b0b := (hx1_1l).2; have b1a := (hv8).1; have b1b := (hv8).2; omega⟩) hS
set_option maxHeartbeats 4000000 in
set_option maxRecDepth 100000 in
theorem t_X9_person (l : Launch) {D : va_G} {c0 : Nat → ClassId} {Y : Nat → Option Nat} {H : Heap} (hT : TI D vwCl (tysOf c0) (RT1 false) Y H) {a0 : Nat} (ha0 : Y a0 = some 9) {x1 : Int32} (hx1 : iv x1 (-2147483648) 2147483647) {x2 : Int32} (hx2 : iv x2 (-2147483648) 2147483647) : Met l yX9_person (wz yX9_person cX9_person 4 (some .int)) { frames := 1, cells := 0, slots := 0, locals := 22 } (TP D vwCl (tysOf c0) H [.ref a0, .int x1, .int x2]) (TQi (fun x H' => H' = H ∧ iv x (-2) (-2)) Y) 0 0 (pA Y) := by
  refine Met.ofW (cc := cX9_person) (maxL := 4) (ret := (some .int)) (by decide) rfl ?_
  intro p e s m args below meth c s₁ B hml hv
  obtain ⟨rfl, rfl, hK⟩ := hv
  have hx := B.exec
  have hb := B.bytes
  have hr := B.returns
  have hts : ∀ w ∈ wq, w.before _ s = true := fun w h => atoms_spec (ws := wz yX9_person cX9_person 4 (some .int)) B.pre w (List.mem_cons_of_mem _ h)
  have hown : s.vm.findClass RX9 = some m.cls := findClass_of_methodNamed B.named
  have hlocks := B.notSynchronized
  obtain ⟨R, hR⟩ : ∃ R : Room, R = ({ frames := 1, cells := 0, slots := 0, locals := 22 } : Room) := ⟨_, rfl⟩
  rw [show (headSpec (wz yX9_person cX9_person 4 (some .int)) { frames := 1, cells := 0, slots := 0, locals := 22 }).room = R from hR.symm]
  refine ti_mi hx hb hr hlocks (fun Q ret => ?_)
  have hl := lv_entry [.ref a0, .int x1, .int x2] (n := 4) (Nat.le_of_ble_eq_true rfl)
  rw [lg_entry_eq]
  generalize (lg_sl [.ref a0, .int x1, .int x2] ++ List.replicate (4 - (lg_sl [.ref a0, .int x1, .int x2]).length) Slot.unset).toArray = ls at hl ⊢
  have hl : lv_has ls 4 [(0, .ref a0), (1, .int x1), (2, .int x2)] := hl
  have hS : va_S (pA Y) s.heap s.heap [] := va_S.rf
  refine lv_aload_n hx hb dX9_person_0 rfl (lv_at hl 0 rfl) ?_
  refine lv_iload_n hx hb dX9_person_1 rfl (lv_at hl 1 rfl) ?_
  refine lv_i2l hx hb dX9_person_2 rfl ?_
  refine lv_topl (fun v2 e2 => ?_)
  have hv2 : jv v2 (-2147483648) 2147483647 := by rw [e2]; exact jv_i hx1
  have t2 : v2.toInt = x1.toInt := by rw [e2]; exact jv_e _
  refine ti_calli (va_runV (As := [.long v2]) (rest := []) ⟨hx, hb, hml, hown, hts⟩ (t_X9_isPerson l hT ha0 (jv_w hv2 (by decide))) (cwV 1 hts (good_V kw_476 kw_477 kw_478 kw_2 kw_479) rfl rfl rfl (by decide +kernel) ⟨by rw [hR]; decide, by rw [hR]; decide⟩) (ti_preV hK hT ha0 rfl rfl) rfl rfl hl.1 rfl (lv_room (Nat.le_of_ble_eq_true rfl)) dX9_person_3 ⟨Nat.zero_le _, Nat.zero_le _⟩) hS (fun _ h => h) (fun v3 H1 locs hB hS _ _ => ?_)
  obtain ⟨hH, hv3⟩ := hB
  rw [hH] at hS ⊢
  refine lv_if_ne (tgt := 12) hx hb dX9_person_6 (by decide) (fun c6 => ?_) (fun c6 => ?_)
  · skip
    have kl0 : (0 : Int32).toInt = 0 := by decide
    have f6 := i_ne c6
    exact (iv_no (show iv v3 1 (-1) from iv_nel hv3 (iv_c (x := (0 : Int32)) (k := 0) (by decide)) c6 (by decide)) (by decide)).elim
  · skip
    have kl0 : (0 : Int32).toInt = 0 := by decide
    have f6 := i_eq c6
    refine lv_bipush (v := (-2)) hx hb dX9_person_9 (by decide) ?_
    exact ret _ _ _ _ _ dX9_person_11 (⟨rfl, iv_w (iv_c (x := (-2 : Int32)) (k := (-2)) (by decide)) (by decide)⟩) hS
set_option maxHeartbeats 4000000 in
set_option maxRecDepth 100000 in
theorem t_X9_have (l : Launch) {D : va_G} {c0 : Nat → ClassId} {Y : Nat → Option Nat} {H : Heap} (hT : TI D vwCl (tysOf c0) (RT1 false) Y H) {a0 : Nat} (ha0 : Y a0 = some 9) {x1 : Int32} (hx1 : iv x1 (-2147483648) 2147483647) {x2 : Int32} (hx2 : iv x2 (-2147483648) 2147483647) : Met l yX9_have (wz yX9_have cX9_have 4 (some .int)) { frames := 1, cells := 0, slots := 0, locals := 22 } (TP D vwCl (tysOf c0) H [.ref a0, .int x1, .int x2]) (TQi (fun x H' => H' = H ∧ iv x (-2) (-2)) Y) 0 0 (pA Y) := by
  refine Met.ofW (cc := cX9_have) (maxL := 4) (ret := (some .int)) (by decide) rfl ?_
  intro p e s m args below meth c s₁ B hml hv
  obtain ⟨rfl, rfl, hK⟩ := hv
  have hx := B.exec
  have hb := B.bytes
  have hr := B.returns
  have hts : ∀ w ∈ wq, w.before _ s = true := fun w h => atoms_spec (ws := wz yX9_have cX9_have 4 (some .int)) B.pre w (List.mem_cons_of_mem _ h)
  have hown : s.vm.findClass RX9 = some m.cls := findClass_of_methodNamed B.named
  have hlocks := B.notSynchronized
  obtain ⟨R, hR⟩ : ∃ R : Room, R = ({ frames := 1, cells := 0, slots := 0, locals := 22 } : Room) := ⟨_, rfl⟩
  rw [show (headSpec (wz yX9_have cX9_have 4 (some .int)) { frames := 1, cells := 0, slots := 0, locals := 22 }).room = R from hR.symm]
  refine ti_mi hx hb hr hlocks (fun Q ret => ?_)
  have hl := lv_entry [.ref a0, .int x1, .int x2] (n := 4) (Nat.le_of_ble_eq_true rfl)
  rw [lg_entry_eq]
  generalize (lg_sl [.ref a0, .int x1, .int x2] ++ List.replicate (4 - (lg_sl [.ref a0, .int x1, .int x2]).length) Slot.unset).toArray = ls at hl ⊢
  have hl : lv_has ls 4 [(0, .ref a0), (1, .int x1), (2, .int x2)] := hl
  have hS : va_S (pA Y) s.heap s.heap [] := va_S.rf
  refine lv_aload_n hx hb dX9_have_0 rfl (lv_at hl 0 rfl) ?_
  refine lv_iload_n hx hb dX9_have_1 rfl (lv_at hl 1 rfl) ?_
  refine lv_i2l hx hb dX9_have_2 rfl ?_
  refine lv_topl (fun v2 e2 => ?_)
  have hv2 : jv v2 (-2147483648) 2147483647 := by rw [e2]; exact jv_i hx1
  have t2 : v2.toInt = x1.toInt := by rw [e2]; exact jv_e _
  refine ti_calli (va_runV (As := [.long v2]) (rest := []) ⟨hx, hb, hml, hown, hts⟩ (t_X9_isPerson l hT ha0 (jv_w hv2 (by decide))) (cwV 1 hts (good_V kw_476 kw_477 kw_478 kw_2 kw_479) rfl rfl rfl (by decide +kernel) ⟨by rw [hR]; decide, by rw [hR]; decide⟩) (ti_preV hK hT ha0 rfl rfl) rfl rfl hl.1 rfl (lv_room (Nat.le_of_ble_eq_true rfl)) dX9_have_3 ⟨Nat.zero_le _, Nat.zero_le _⟩) hS (fun _ h => h) (fun v3 H1 locs hB hS _ _ => ?_)
  obtain ⟨hH, hv3⟩ := hB
  rw [hH] at hS ⊢
  refine lv_if_eq (tgt := 24) hx hb dX9_have_6 (by decide) (fun c6 => ?_) (fun c6 => ?_)
  · skip
    have kl0 : (0 : Int32).toInt = 0 := by decide
    have f6 := i_eq c6
    refine lv_bipush (v := (-2)) hx hb dX9_have_24 (by decide) ?_
    exact ret _ _ _ _ _ dX9_have_26 (⟨rfl, iv_w (iv_c (x := (-2 : Int32)) (k := (-2)) (by decide)) (by decide)⟩) hS
  · skip
    have kl0 : (0 : Int32).toInt = 0 := by decide
    have f6 := i_ne c6
    exact (iv_no (show iv v3 1 (-1) from iv_nel hv3 (iv_c (x := (0 : Int32)) (k := 0) (by decide)) c6 (by decide)) (by decide)).elim
set_option maxHeartbeats 4000000 in
set_option maxRecDepth 100000 in
theorem t_X9_hide (l : Launch) {D : va_G} {c0 : Nat → ClassId} {Y : Nat → Option Nat} {H : Heap} (hT : TI D vwCl (tysOf c0) (RT1 false) Y H) {a0 : Nat} (ha0 : Y a0 = some 9) {x1 : Int32} (hx1 : iv x1 (-2147483648) 2147483647) {x2 : Int32} (hx2 : iv x2 (-2147483648) 2147483647) : Met l yX9_hide (wz yX9_hide cX9_hide 4 (some .int)) { frames := 1, cells := 0, slots := 0, locals := 22 } (TP D vwCl (tysOf c0) H [.ref a0, .int x1, .int x2]) (TQi (fun x H' => H' = H ∧ iv x (-2) (-2)) Y) 0 0 (pA Y) := by
  refine Met.ofW (cc := cX9_hide) (maxL := 4) (ret := (some .int)) (by decide) rfl ?_
  intro p e s m args below meth c s₁ B hml hv
  obtain ⟨rfl, rfl, hK⟩ := hv
  have hx := B.exec
  have hb := B.bytes
  have hr := B.returns
  have hts : ∀ w ∈ wq, w.before _ s = true := fun w h => atoms_spec (ws := wz yX9_hide cX9_hide 4 (some .int)) B.pre w (List.mem_cons_of_mem _ h)
  have hown : s.vm.findClass RX9 = some m.cls := findClass_of_methodNamed B.named
  have hlocks := B.notSynchronized
  obtain ⟨R, hR⟩ : ∃ R : Room, R = ({ frames := 1, cells := 0, slots := 0, locals := 22 } : Room) := ⟨_, rfl⟩
  rw [show (headSpec (wz yX9_hide cX9_hide 4 (some .int)) { frames := 1, cells := 0, slots := 0, locals := 22 }).room = R from hR.symm]
  refine ti_mi hx hb hr hlocks (fun Q ret => ?_)
  have hl := lv_entry [.ref a0, .int x1, .int x2] (n := 4) (Nat.le_of_ble_eq_true rfl)
  rw [lg_entry_eq]
  generalize (lg_sl [.ref a0, .int x1, .int x2] ++ List.replicate (4 - (lg_sl [.ref a0, .int x1, .int x2]).length) Slot.unset).toArray = ls at hl ⊢
  have hl : lv_has ls 4 [(0, .ref a0), (1, .int x1), (2, .int x2)] := hl
  have hS : va_S (pA Y) s.heap s.heap [] := va_S.rf
  refine lv_aload_n hx hb dX9_hide_0 rfl (lv_at hl 0 rfl) ?_
  refine lv_iload_n hx hb dX9_hide_1 rfl (lv_at hl 1 rfl) ?_
  refine lv_i2l hx hb dX9_hide_2 rfl ?_
  refine lv_topl (fun v2 e2 => ?_)
  have hv2 : jv v2 (-2147483648) 2147483647 := by rw [e2]; exact jv_i hx1
  have t2 : v2.toInt = x1.toInt := by rw [e2]; exact jv_e _
  refine ti_calli (va_runV (As := [.long v2]) (rest := []) ⟨hx, hb, hml, hown, hts⟩ (t_X9_isPerson l hT ha0 (jv_w hv2 (by decide))) (cwV 1 hts (good_V kw_476 kw_477 kw_478 kw_2 kw_479) rfl rfl rfl (by decide +kernel) ⟨by rw [hR]; decide, by rw [hR]; decide⟩) (ti_preV hK hT ha0 rfl rfl) rfl rfl hl.1 rfl (lv_room (Nat.le_of_ble_eq_true rfl)) dX9_hide_3 ⟨Nat.zero_le _, Nat.zero_le _⟩) hS (fun _ h => h) (fun v3 H1 locs hB hS _ _ => ?_)
  obtain ⟨hH, hv3⟩ := hB
  rw [hH] at hS ⊢
  refine lv_if_eq (tgt := 19) hx hb dX9_hide_6 (by decide) (fun c6 => ?_) (fun c6 => ?_)
  · skip
    have kl0 : (0 : Int32).toInt = 0 := by decide
    have f6 := i_eq c6
    refine lv_bipush (v := (-2)) hx hb dX9_hide_19 (by decide) ?_
    exact ret _ _ _ _ _ dX9_hide_21 (⟨rfl, iv_w (iv_c (x := (-2 : Int32)) (k := (-2)) (by decide)) (by decide)⟩) hS
  · skip
    have kl0 : (0 : Int32).toInt = 0 := by decide
    have f6 := i_ne c6
    exact (iv_no (show iv v3 1 (-1) from iv_nel hv3 (iv_c (x := (0 : Int32)) (k := 0) (by decide)) c6 (by decide)) (by decide)).elim
set_option maxHeartbeats 4000000 in
set_option maxRecDepth 100000 in
theorem t_X9_seen (l : Launch) {D : va_G} {c0 : Nat → ClassId} {Y : Nat → Option Nat} {H : Heap} (hT : TI D vwCl (tysOf c0) (RT1 false) Y H) {a0 : Nat} (ha0 : Y a0 = some 9) {x1 : Int32} (hx1 : iv x1 (-2147483648) 2147483647) {x2 : Int32} (hx2 : iv x2 (-2147483648) 2147483647) : Met l yX9_seen (wz yX9_seen cX9_seen 3 (some .int)) { frames := 2, cells := 0, slots := 0, locals := 44 } (TP D vwCl (tysOf c0) H [.ref a0, .int x1, .int x2]) (TQi (fun x H' => H' = H ∧ iv x (-2) (-2)) Y) 0 0 (pA Y) := by
  refine Met.ofW (cc := cX9_seen) (maxL := 3) (ret := (some .int)) (by decide) rfl ?_
  intro p e s m args below meth c s₁ B hml hv
  obtain ⟨rfl, rfl, hK⟩ := hv
  have hx := B.exec
  have hb := B.bytes
  have hr := B.returns
  have hts : ∀ w ∈ wq, w.before _ s = true := fun w h => atoms_spec (ws := wz yX9_seen cX9_seen 3 (some .int)) B.pre w (List.mem_cons_of_mem _ h)
  have hown : s.vm.findClass RX9 = some m.cls := findClass_of_methodNamed B.named
  have hlocks := B.notSynchronized
  obtain ⟨R, hR⟩ : ∃ R : Room, R = ({ frames := 2, cells := 0, slots := 0, locals := 44 } : Room) := ⟨_, rfl⟩
  rw [show (headSpec (wz yX9_seen cX9_seen 3 (some .int)) { frames := 2, cells := 0, slots := 0, locals := 44 }).room = R from hR.symm]
  refine ti_mi hx hb hr hlocks (fun Q ret => ?_)
  have hl := lv_entry [.ref a0, .int x1, .int x2] (n := 3) (Nat.le_of_ble_eq_true rfl)
  rw [lg_entry_eq]
  generalize (lg_sl [.ref a0, .int x1, .int x2] ++ List.replicate (3 - (lg_sl [.ref a0, .int x1, .int x2]).length) Slot.unset).toArray = ls at hl ⊢
  have hl : lv_has ls 3 [(0, .ref a0), (1, .int x1), (2, .int x2)] := hl
  have hS : va_S (pA Y) s.heap s.heap [] := va_S.rf
  refine lv_aload_n hx hb dX9_seen_0 rfl (lv_at hl 0 rfl) ?_
  refine lv_iload_n hx hb dX9_seen_1 rfl (lv_at hl 1 rfl) ?_
  refine lv_iload_n hx hb dX9_seen_2 rfl (lv_at hl 2 rfl) ?_
  refine ti_calli (va_runV (As := [.int x1, .int x2]) (rest := []) ⟨hx, hb, hml, hown, hts⟩ (t_X9_arePair l hT ha0 (iv_w hx1 (by decide)) (iv_w hx2 (by decide))) (cwV 2 hts (good_V kw_529 kw_530 kw_531 kw_2 kw_532) rfl rfl rfl (by decide +kernel) ⟨by rw [hR]; decide, by rw [hR]; decide⟩) (ti_preV hK hT ha0 rfl rfl) rfl rfl hl.1 rfl (lv_room (Nat.le_of_ble_eq_true rfl)) dX9_seen_3 ⟨Nat.zero_le _, Nat.zero_le _⟩) hS (fun _ h => h) (fun v3 H1 locs hB hS _ _ => ?_)
  obtain ⟨hH, hv3⟩ := hB
  rw [hH] at hS ⊢
  refine lv_if_eq (tgt := 21) hx hb dX9_seen_6 (by decide) (fun c6 => ?_) (fun c6 => ?_)
  · skip
    have kl0 : (0 : Int32).toInt = 0 := by decide
    have f6 := i_eq c6
    refine lv_bipush (v := (-2)) hx hb dX9_seen_21 (by decide) ?_
    exact ret _ _ _ _ _ dX9_seen_23 (⟨rfl, iv_w (iv_c (x := (-2 : Int32)) (k := (-2)) (by decide)) (by decide)⟩) hS
  · skip
    have kl0 : (0 : Int32).toInt = 0 := by decide
    have f6 := i_ne c6
    exact (iv_no (show iv v3 1 (-1) from iv_nel hv3 (iv_c (x := (0 : Int32)) (k := 0) (by decide)) c6 (by decide)) (by decide)).elim
set_option maxHeartbeats 4000000 in
set_option maxRecDepth 100000 in
theorem t_X9_sight (l : Launch) {D : va_G} {c0 : Nat → ClassId} {Y : Nat → Option Nat} {H : Heap} (hT : TI D vwCl (tysOf c0) (RT1 false) Y H) {a0 : Nat} (ha0 : Y a0 = some 9) {x1 : Int32} (hx1 : iv x1 (-2147483648) 2147483647) {x2 : Int32} (hx2 : iv x2 (-2147483648) 2147483647) {x3 : Int32} (hx3 : iv x3 (-2147483648) 2147483647) : Met l yX9_sight (wz yX9_sight cX9_sight 6 (some .int)) { frames := 2, cells := 0, slots := 0, locals := 44 } (TP D vwCl (tysOf c0) H [.ref a0, .int x1, .int x2, .int x3]) (TQi (fun x H' => H' = H ∧ iv x (-2) (-2)) Y) 0 0 (pA Y) := by
  refine Met.ofW (cc := cX9_sight) (maxL := 6) (ret := (some .int)) (by decide) rfl ?_
  intro p e s m args below meth c s₁ B hml hv
  obtain ⟨rfl, rfl, hK⟩ := hv
  have hx := B.exec
  have hb := B.bytes
  have hr := B.returns
  have hts : ∀ w ∈ wq, w.before _ s = true := fun w h => atoms_spec (ws := wz yX9_sight cX9_sight 6 (some .int)) B.pre w (List.mem_cons_of_mem _ h)
  have hown : s.vm.findClass RX9 = some m.cls := findClass_of_methodNamed B.named
  have hlocks := B.notSynchronized
  obtain ⟨R, hR⟩ : ∃ R : Room, R = ({ frames := 2, cells := 0, slots := 0, locals := 44 } : Room) := ⟨_, rfl⟩
  rw [show (headSpec (wz yX9_sight cX9_sight 6 (some .int)) { frames := 2, cells := 0, slots := 0, locals := 44 }).room = R from hR.symm]
  refine ti_mi hx hb hr hlocks (fun Q ret => ?_)
  have hl := lv_entry [.ref a0, .int x1, .int x2, .int x3] (n := 6) (Nat.le_of_ble_eq_true rfl)
  rw [lg_entry_eq]
  generalize (lg_sl [.ref a0, .int x1, .int x2, .int x3] ++ List.replicate (6 - (lg_sl [.ref a0, .int x1, .int x2, .int x3]).length) Slot.unset).toArray = ls at hl ⊢
  have hl : lv_has ls 6 [(0, .ref a0), (1, .int x1), (2, .int x2), (3, .int x3)] := hl
  have hS : va_S (pA Y) s.heap s.heap [] := va_S.rf
  refine lv_aload_n hx hb dX9_sight_0 rfl (lv_at hl 0 rfl) ?_
  refine lv_iload_n hx hb dX9_sight_1 rfl (lv_at hl 1 rfl) ?_
  refine lv_iload_n hx hb dX9_sight_2 rfl (lv_at hl 2 rfl) ?_
  refine ti_calli (va_runV (As := [.int x1, .int x2]) (rest := []) ⟨hx, hb, hml, hown, hts⟩ (t_X9_arePair l hT ha0 (iv_w hx1 (by decide)) (iv_w hx2 (by decide))) (cwV 2 hts (good_V kw_529 kw_530 kw_531 kw_2 kw_532) rfl rfl rfl (by decide +kernel) ⟨by rw [hR]; decide, by rw [hR]; decide⟩) (ti_preV hK hT ha0 rfl rfl) rfl rfl hl.1 rfl (lv_room (Nat.le_of_ble_eq_true rfl)) dX9_sight_3 ⟨Nat.zero_le _, Nat.zero_le _⟩) hS (fun _ h => h) (fun v3 H1 locs hB hS _ _ => ?_)
  obtain ⟨hH, hv3⟩ := hB
  rw [hH] at hS ⊢
  refine lv_if_eq (tgt := 20) hx hb dX9_sight_6 (by decide) (fun c6 => ?_) (fun c6 => ?_)
  · skip
    have kl0 : (0 : Int32).toInt = 0 := by decide
    have f6 := i_eq c6
    refine lv_bipush (v := (-2)) hx hb dX9_sight_20 (by decide) ?_
    exact ret _ _ _ _ _ dX9_sight_22 (⟨rfl, iv_w (iv_c (x := (-2 : Int32)) (k := (-2)) (by decide)) (by decide)⟩) hS
  · skip
    have kl0 : (0 : Int32).toInt = 0 := by decide
    have f6 := i_ne c6
    exact (iv_no (show iv v3 1 (-1) from iv_nel hv3 (iv_c (x := (0 : Int32)) (k := 0) (by decide)) c6 (by decide)) (by decide)).elim
set_option maxHeartbeats 4000000 in
set_option maxRecDepth 100000 in
theorem t_X9_tops (l : Launch) {D : va_G} {c0 : Nat → ClassId} {Y : Nat → Option Nat} {H : Heap} (hT : TI D vwCl (tysOf c0) (RT1 false) Y H) {a0 : Nat} (ha0 : Y a0 = some 9) : Met l yX9_tops (wz yX9_tops cX9_tops 1 (some .int)) { frames := 0, cells := 0, slots := 0, locals := 0 } (TP D vwCl (tysOf c0) H [.ref a0]) (TQi (fun x H' => H' = H ∧ iv x (-2) (-2)) Y) 0 0 (pA Y) := by
  refine Met.ofW (cc := cX9_tops) (maxL := 1) (ret := (some .int)) (by decide) rfl ?_
  intro p e s m args below meth c s₁ B hml hv
  obtain ⟨rfl, rfl, hK⟩ := hv
  have hx := B.exec
  have hb := B.bytes
  have hr := B.returns
  have hts : ∀ w ∈ wq, w.before _ s = true := fun w h => atoms_spec (ws := wz yX9_tops cX9_tops 1 (some .int)) B.pre w (List.mem_cons_of_mem _ h)
  have hown : s.vm.findClass RX9 = some m.cls := findClass_of_methodNamed B.named
  have hlocks := B.notSynchronized
  obtain ⟨R, hR⟩ : ∃ R : Room, R = ({ frames := 0, cells := 0, slots := 0, locals := 0 } : Room) := ⟨_, rfl⟩
  rw [show (headSpec (wz yX9_tops cX9_tops 1 (some .int)) { frames := 0, cells := 0, slots := 0, locals := 0 }).room = R from hR.symm]
  refine ti_mi hx hb hr hlocks (fun Q ret => ?_)
  have hl := lv_entry [.ref a0] (n := 1) (Nat.le_of_ble_eq_true rfl)
  rw [lg_entry_eq]
  generalize (lg_sl [.ref a0] ++ List.replicate (1 - (lg_sl [.ref a0]).length) Slot.unset).toArray = ls at hl ⊢
  have hl : lv_has ls 1 [(0, .ref a0)] := hl
  have hS : va_S (pA Y) s.heap s.heap [] := va_S.rf
  refine lv_aload_n hx hb dX9_tops_0 rfl (lv_at hl 0 rfl) ?_
  refine ti_getr hx hb hts inlX9 hown hK hT ha0 rfl rfl 1 (by decide) (hts _ kw_20) (fun _ h9 => h9) rfl dX9_tops_1 (fun v1 hv1 => ?_)
  refine ti_geti hx hb hts inlX7 hown hK hT hv1 rfl rfl 1 (by decide) (hts _ kw_480) (fun _ h9 => h9) rfl dX9_tops_4 (fun v4 hv4 => ?_)
  refine lv_if_ne (tgt := 13) hx hb dX9_tops_7 (by decide) (fun c7 => ?_) (fun c7 => ?_)
  · skip
    have kl0 : (0 : Int32).toInt = 0 := by decide
    have f7 := i_ne c7
    exact (iv_no (show iv v4 1 (-1) from iv_nel hv4 (iv_c (x := (0 : Int32)) (k := 0) (by decide)) c7 (by decide)) (by decide)).elim
  · skip
    have kl0 : (0 : Int32).toInt = 0 := by decide
    have f7 := i_eq c7
    refine lv_bipush (v := (-2)) hx hb dX9_tops_10 (by decide) ?_
    exact ret _ _ _ _ _ dX9_tops_12 (⟨rfl, iv_w (iv_c (x := (-2 : Int32)) (k := (-2)) (by decide)) (by decide)⟩) hS
set_option maxHeartbeats 4000000 in
set_option maxRecDepth 100000 in
theorem t_X9_next (l : Launch) {D : va_G} {c0 : Nat → ClassId} {Y : Nat → Option Nat} {H : Heap} (hT : TI D vwCl (tysOf c0) (RT1 false) Y H) {a0 : Nat} (ha0 : Y a0 = some 9) : Met l yX9_next (wz yX9_next cX9_next 1 (some .int)) { frames := 0, cells := 0, slots := 0, locals := 0 } (TP D vwCl (tysOf c0) H [.ref a0]) (TQi (fun x H' => H' = H ∧ iv x (-2) (-2)) Y) 0 0 (pA Y) := by
  refine Met.ofW (cc := cX9_next) (maxL := 1) (ret := (some .int)) (by decide) rfl ?_
  intro p e s m args below meth c s₁ B hml hv
  obtain ⟨rfl, rfl, hK⟩ := hv
  have hx := B.exec
  have hb := B.bytes
  have hr := B.returns
  have hts : ∀ w ∈ wq, w.before _ s = true := fun w h => atoms_spec (ws := wz yX9_next cX9_next 1 (some .int)) B.pre w (List.mem_cons_of_mem _ h)
  have hown : s.vm.findClass RX9 = some m.cls := findClass_of_methodNamed B.named
  have hlocks := B.notSynchronized
  obtain ⟨R, hR⟩ : ∃ R : Room, R = ({ frames := 0, cells := 0, slots := 0, locals := 0 } : Room) := ⟨_, rfl⟩
  rw [show (headSpec (wz yX9_next cX9_next 1 (some .int)) { frames := 0, cells := 0, slots := 0, locals := 0 }).room = R from hR.symm]
  refine ti_mi hx hb hr hlocks (fun Q ret => ?_)
  have hl := lv_entry [.ref a0] (n := 1) (Nat.le_of_ble_eq_true rfl)
  rw [lg_entry_eq]
  generalize (lg_sl [.ref a0] ++ List.replicate (1 - (lg_sl [.ref a0]).length) Slot.unset).toArray = ls at hl ⊢
  have hl : lv_has ls 1 [(0, .ref a0)] := hl
  have hS : va_S (pA Y) s.heap s.heap [] := va_S.rf
  refine lv_aload_n hx hb dX9_next_0 rfl (lv_at hl 0 rfl) ?_
  refine ti_getr hx hb hts inlX9 hown hK hT ha0 rfl rfl 1 (by decide) (hts _ kw_20) (fun _ h9 => h9) rfl dX9_next_1 (fun v1 hv1 => ?_)
  refine ti_geti hx hb hts inlX7 hown hK hT hv1 rfl rfl 1 (by decide) (hts _ kw_480) (fun _ h9 => h9) rfl dX9_next_4 (fun v4 hv4 => ?_)
  refine lv_if_ne (tgt := 13) hx hb dX9_next_7 (by decide) (fun c7 => ?_) (fun c7 => ?_)
  · skip
    have kl0 : (0 : Int32).toInt = 0 := by decide
    have f7 := i_ne c7
    exact (iv_no (show iv v4 1 (-1) from iv_nel hv4 (iv_c (x := (0 : Int32)) (k := 0) (by decide)) c7 (by decide)) (by decide)).elim
  · skip
    have kl0 : (0 : Int32).toInt = 0 := by decide
    have f7 := i_eq c7
    refine lv_bipush (v := (-2)) hx hb dX9_next_10 (by decide) ?_
    exact ret _ _ _ _ _ dX9_next_12 (⟨rfl, iv_w (iv_c (x := (-2 : Int32)) (k := (-2)) (by decide)) (by decide)⟩) hS
set_option maxHeartbeats 4000000 in
set_option maxRecDepth 100000 in
theorem t_X9_loses (l : Launch) {D : va_G} {c0 : Nat → ClassId} {Y : Nat → Option Nat} {H : Heap} (hT : TI D vwCl (tysOf c0) (RT1 false) Y H) {a0 : Nat} (ha0 : Y a0 = some 9) {x1 : Int32} (hx1 : iv x1 (-2147483648) 2147483647) : Met l yX9_loses (wz yX9_loses cX9_loses 2 (some .int)) { frames := 1, cells := 0, slots := 0, locals := 22 } (TP D vwCl (tysOf c0) H [.ref a0, .int x1]) (TQi (fun x H' => H' = H ∧ iv x (-2) (-2)) Y) 0 0 (pA Y) := by
  refine Met.ofW (cc := cX9_loses) (maxL := 2) (ret := (some .int)) (by decide) rfl ?_
  intro p e s m args below meth c s₁ B hml hv
  obtain ⟨rfl, rfl, hK⟩ := hv
  have hx := B.exec
  have hb := B.bytes
  have hr := B.returns
  have hts : ∀ w ∈ wq, w.before _ s = true := fun w h => atoms_spec (ws := wz yX9_loses cX9_loses 2 (some .int)) B.pre w (List.mem_cons_of_mem _ h)
  have hown : s.vm.findClass RX9 = some m.cls := findClass_of_methodNamed B.named
  have hlocks := B.notSynchronized
  obtain ⟨R, hR⟩ : ∃ R : Room, R = ({ frames := 1, cells := 0, slots := 0, locals := 22 } : Room) := ⟨_, rfl⟩
  rw [show (headSpec (wz yX9_loses cX9_loses 2 (some .int)) { frames := 1, cells := 0, slots := 0, locals := 22 }).room = R from hR.symm]
  refine ti_mi hx hb hr hlocks (fun Q ret => ?_)
  have hl := lv_entry [.ref a0, .int x1] (n := 2) (Nat.le_of_ble_eq_true rfl)
  rw [lg_entry_eq]
  generalize (lg_sl [.ref a0, .int x1] ++ List.replicate (2 - (lg_sl [.ref a0, .int x1]).length) Slot.unset).toArray = ls at hl ⊢
  have hl : lv_has ls 2 [(0, .ref a0), (1, .int x1)] := hl
  have hS : va_S (pA Y) s.heap s.heap [] := va_S.rf
  refine lv_aload_n hx hb dX9_loses_0 rfl (lv_at hl 0 rfl) ?_
  refine lv_iload_n hx hb dX9_loses_1 rfl (lv_at hl 1 rfl) ?_
  refine lv_i2l hx hb dX9_loses_2 rfl ?_
  refine lv_topl (fun v2 e2 => ?_)
  have hv2 : jv v2 (-2147483648) 2147483647 := by rw [e2]; exact jv_i hx1
  have t2 : v2.toInt = x1.toInt := by rw [e2]; exact jv_e _
  refine ti_calli (va_runV (As := [.long v2]) (rest := []) ⟨hx, hb, hml, hown, hts⟩ (t_X9_isPerson l hT ha0 (jv_w hv2 (by decide))) (cwV 1 hts (good_V kw_476 kw_477 kw_478 kw_2 kw_479) rfl rfl rfl (by decide +kernel) ⟨by rw [hR]; decide, by rw [hR]; decide⟩) (ti_preV hK hT ha0 rfl rfl) rfl rfl hl.1 rfl (lv_room (Nat.le_of_ble_eq_true rfl)) dX9_loses_3 ⟨Nat.zero_le _, Nat.zero_le _⟩) hS (fun _ h => h) (fun v3 H1 locs hB hS _ _ => ?_)
  obtain ⟨hH, hv3⟩ := hB
  rw [hH] at hS ⊢
  refine lv_if_ne (tgt := 12) hx hb dX9_loses_6 (by decide) (fun c6 => ?_) (fun c6 => ?_)
  · skip
    have kl0 : (0 : Int32).toInt = 0 := by decide
    have f6 := i_ne c6
    exact (iv_no (show iv v3 1 (-1) from iv_nel hv3 (iv_c (x := (0 : Int32)) (k := 0) (by decide)) c6 (by decide)) (by decide)).elim
  · skip
    have kl0 : (0 : Int32).toInt = 0 := by decide
    have f6 := i_eq c6
    refine lv_bipush (v := (-2)) hx hb dX9_loses_9 (by decide) ?_
    exact ret _ _ _ _ _ dX9_loses_11 (⟨rfl, iv_w (iv_c (x := (-2 : Int32)) (k := (-2)) (by decide)) (by decide)⟩) hS
set_option maxHeartbeats 4000000 in
set_option maxRecDepth 100000 in
theorem t_X9_stroke (l : Launch) {D : va_G} {c0 : Nat → ClassId} {Y : Nat → Option Nat} {H : Heap} (hT : TI D vwCl (tysOf c0) (RT1 false) Y H) {a0 : Nat} (ha0 : Y a0 = some 9) : Met l yX9_stroke (wz yX9_stroke cX9_stroke 1 (some .int)) { frames := 0, cells := 0, slots := 0, locals := 0 } (TP D vwCl (tysOf c0) H [.ref a0]) (TQi (fun x H' => H' = H ∧ iv x (-2) (-2)) Y) 0 0 (pA Y) := by
  refine Met.ofW (cc := cX9_stroke) (maxL := 1) (ret := (some .int)) (by decide) rfl ?_
  intro p e s m args below meth c s₁ B hml hv
  obtain ⟨rfl, rfl, hK⟩ := hv
  have hx := B.exec
  have hb := B.bytes
  have hr := B.returns
  have hts : ∀ w ∈ wq, w.before _ s = true := fun w h => atoms_spec (ws := wz yX9_stroke cX9_stroke 1 (some .int)) B.pre w (List.mem_cons_of_mem _ h)
  have hown : s.vm.findClass RX9 = some m.cls := findClass_of_methodNamed B.named
  have hlocks := B.notSynchronized
  obtain ⟨R, hR⟩ : ∃ R : Room, R = ({ frames := 0, cells := 0, slots := 0, locals := 0 } : Room) := ⟨_, rfl⟩
  rw [show (headSpec (wz yX9_stroke cX9_stroke 1 (some .int)) { frames := 0, cells := 0, slots := 0, locals := 0 }).room = R from hR.symm]
  refine ti_mi hx hb hr hlocks (fun Q ret => ?_)
  have hl := lv_entry [.ref a0] (n := 1) (Nat.le_of_ble_eq_true rfl)
  rw [lg_entry_eq]
  generalize (lg_sl [.ref a0] ++ List.replicate (1 - (lg_sl [.ref a0]).length) Slot.unset).toArray = ls at hl ⊢
  have hl : lv_has ls 1 [(0, .ref a0)] := hl
  have hS : va_S (pA Y) s.heap s.heap [] := va_S.rf
  refine lv_aload_n hx hb dX9_stroke_0 rfl (lv_at hl 0 rfl) ?_
  refine ti_getr hx hb hts inlX9 hown hK hT ha0 rfl rfl 1 (by decide) (hts _ kw_20) (fun _ h9 => h9) rfl dX9_stroke_1 (fun v1 hv1 => ?_)
  refine ti_geti hx hb hts inlX7 hown hK hT hv1 rfl rfl 1 (by decide) (hts _ kw_480) (fun _ h9 => h9) rfl dX9_stroke_4 (fun v4 hv4 => ?_)
  refine lv_if_ne (tgt := 13) hx hb dX9_stroke_7 (by decide) (fun c7 => ?_) (fun c7 => ?_)
  · skip
    have kl0 : (0 : Int32).toInt = 0 := by decide
    have f7 := i_ne c7
    exact (iv_no (show iv v4 1 (-1) from iv_nel hv4 (iv_c (x := (0 : Int32)) (k := 0) (by decide)) c7 (by decide)) (by decide)).elim
  · skip
    have kl0 : (0 : Int32).toInt = 0 := by decide
    have f7 := i_eq c7
    refine lv_bipush (v := (-2)) hx hb dX9_stroke_10 (by decide) ?_
    exact ret _ _ _ _ _ dX9_stroke_12 (⟨rfl, iv_w (iv_c (x := (-2 : Int32)) (k := (-2)) (by decide)) (by decide)⟩) hS
set_option maxHeartbeats 4000000 in
set_option maxRecDepth 100000 in
theorem t_X9_act (l : Launch) {D : va_G} {c0 : Nat → ClassId} {Y : Nat → Option Nat} {H : Heap} (hT : TI D vwCl (tysOf c0) (RT1 false) Y H) {a0 : Nat} (ha0 : Y a0 = some 9) {x1 : Int32} (hx1 : iv x1 (-2147483648) 2147483647) {x2 : Int32} (hx2 : iv x2 (-2147483648) 2147483647) {x3 : Int32} (hx3 : iv x3 (-2147483648) 2147483647) {x4 : Int32} (hx4 : iv x4 (-2147483648) 2147483647) {x5 : Int32} (hx5 : iv x5 (-2147483648) 2147483647) : Met l yX9_act (wz yX9_act cX9_act 8 (some .int)) { frames := 2, cells := 0, slots := 0, locals := 54 } (TP D vwCl (tysOf c0) H [.ref a0, .int x1, .int x2, .int x3, .int x4, .int x5]) (TQi (fun x H' => H' = H ∧ iv x (-2) (-2)) Y) 0 0 (pA Y) := by
  refine Met.ofW (cc := cX9_act) (maxL := 8) (ret := (some .int)) (by decide) rfl ?_
  intro p e s m args below meth c s₁ B hml hv
  obtain ⟨rfl, rfl, hK⟩ := hv
  have hx := B.exec
  have hb := B.bytes
  have hr := B.returns
  have hts : ∀ w ∈ wq, w.before _ s = true := fun w h => atoms_spec (ws := wz yX9_act cX9_act 8 (some .int)) B.pre w (List.mem_cons_of_mem _ h)
  have hown : s.vm.findClass RX9 = some m.cls := findClass_of_methodNamed B.named
  have hlocks := B.notSynchronized
  obtain ⟨R, hR⟩ : ∃ R : Room, R = ({ frames := 2, cells := 0, slots := 0, locals := 54 } : Room) := ⟨_, rfl⟩
  rw [show (headSpec (wz yX9_act cX9_act 8 (some .int)) { frames := 2, cells := 0, slots := 0, locals := 54 }).room = R from hR.symm]
  refine ti_mi hx hb hr hlocks (fun Q ret => ?_)
  have hl := lv_entry [.ref a0, .int x1, .int x2, .int x3, .int x4, .int x5] (n := 8) (Nat.le_of_ble_eq_true rfl)
  rw [lg_entry_eq]
  generalize (lg_sl [.ref a0, .int x1, .int x2, .int x3, .int x4, .int x5] ++ List.replicate (8 - (lg_sl [.ref a0, .int x1, .int x2, .int x3, .int x4, .int x5]).length) Slot.unset).toArray = ls at hl ⊢
  have hl : lv_has ls 8 [(0, .ref a0), (1, .int x1), (2, .int x2), (3, .int x3), (4, .int x4), (5, .int x5)] := hl
  have hS : va_S (pA Y) s.heap s.heap [] := va_S.rf
  refine lv_aload_n hx hb dX9_act_0 rfl (lv_at hl 0 rfl) ?_
  refine lv_aload_n hx hb dX9_act_1 rfl (lv_at hl 0 rfl) ?_
  refine ti_getr hx hb hts inlX9 hown hK hT ha0 rfl rfl 1 (by decide) (hts _ kw_20) (fun _ h9 => h9) rfl dX9_act_2 (fun v2 hv2 => ?_)
  refine lv_iload_n hx hb dX9_act_5 rfl (lv_at hl 1 rfl) ?_
  refine lv_i2l hx hb dX9_act_6 rfl ?_
  refine lv_topl (fun v6 e6 => ?_)
  have hv6 : jv v6 (-2147483648) 2147483647 := by rw [e6]; exact jv_i hx1
  have t6 : v6.toInt = x1.toInt := by rw [e6]; exact jv_e _
  refine lv_iload_n hx hb dX9_act_7 rfl (lv_at hl 2 rfl) ?_
  refine lv_i2l hx hb dX9_act_8 rfl ?_
  refine lv_topl (fun v8 e8 => ?_)
  have hv8 : jv v8 (-2147483648) 2147483647 := by rw [e8]; exact jv_i hx2
  have t8 : v8.toInt = x2.toInt := by rw [e8]; exact jv_e _
  refine lv_iload_n hx hb dX9_act_9 rfl (lv_at hl 3 rfl) ?_
  refine lv_i2l hx hb dX9_act_10 rfl ?_
  refine lv_topl (fun v10 e10 => ?_)
  have hv10 : jv v10 (-2147483648) 2147483647 := by rw [e10]; exact jv_i hx3
  have t10 : v10.toInt = x3.toInt := by rw [e10]; exact jv_e _
  refine lv_iload hx hb dX9_act_11 (lv_at hl 4 rfl) ?_
  refine lv_i2l hx hb dX9_act_13 rfl ?_
  refine lv_topl (fun v13 e13 => ?_)
  have hv13 : jv v13 (-2147483648) 2147483647 := by rw [e13]; exact jv_i hx4
  have t13 : v13.toInt = x4.toInt := by rw [e13]; exact jv_e _
  refine lv_iload hx hb dX9_act_14 (lv_at hl 5 rfl) ?_
  refine lv_i2l hx hb dX9_act_16 rfl ?_
  refine lv_topl (fun v16 e16 => ?_)
  have hv16 : jv v16 (-2147483648) 2147483647 := by rw [e16]; exact jv_i hx5
  have t16 : v16.toInt = x5.toInt := by rw [e16]; exact jv_e _
  refine ti_calli (va_runV (As := [.ref v2, .long v6, .long v8, .long v10, .long v13, .long v16]) (rest := []) ⟨hx, hb, hml, hown, hts⟩ (t_X9_whyNot l hT ha0 hv2 (jv_w hv6 (by decide)) (jv_w hv8 (by decide)) (jv_w hv10 (by decide)) (jv_w hv13 (by decide)) (jv_w hv16 (by decide))) (cwV 6 hts (good_V kw_756 kw_757 kw_758 kw_2 kw_759) rfl rfl rfl (by decide +kernel) ⟨by rw [hR]; decide, by rw [hR]; decide⟩) (ti_preV hK hT ha0 rfl rfl) rfl rfl hl.1 rfl (lv_room (Nat.le_of_ble_eq_true rfl)) dX9_act_17 ⟨Nat.zero_le _, Nat.zero_le _⟩) hS (fun _ h => h) (fun v17 H1 locs hB hS _ _ => ?_)
  obtain ⟨hH, hv17⟩ := hB
  rw [hH] at hS ⊢
  refine lv_istore (lv' := [(6, .int v17), (0, .ref a0), (1, .int x1), (2, .int x2), (3, .int x3), (4, .int x4), (5, .int x5)]) hx hb dX9_act_20 hl (by decide) rfl (fun ls hl => ?_)
  refine lv_iload hx hb dX9_act_22 (lv_at hl 0 rfl) ?_
  refine lv_if_eq (tgt := 30) hx hb dX9_act_24 (by decide) (fun c24 => ?_) (fun c24 => ?_)
  · skip
    have kl0 : (0 : Int32).toInt = 0 := by decide
    have f24 := i_eq c24
    exact (iv_no (show iv v17 0 (-2) from iv_eql hv17 (iv_c (x := (0 : Int32)) (k := 0) (by decide)) c24 (by decide)) (by decide)).elim
  · skip
    have kl0 : (0 : Int32).toInt = 0 := by decide
    have f24 := i_ne c24
    refine lv_iload hx hb dX9_act_27 (lv_at hl 0 rfl) ?_
    exact ret _ _ _ _ _ dX9_act_29 (⟨rfl, iv_w hv17 (by decide)⟩) hS
set_option maxHeartbeats 4000000 in
set_option maxRecDepth 100000 in
theorem t_X9_judge (l : Launch) {D : va_G} {c0 : Nat → ClassId} {Y : Nat → Option Nat} {H : Heap} (hT : TI D vwCl (tysOf c0) (RT1 false) Y H) {a0 : Nat} (ha0 : Y a0 = some 9) {x1 : Int32} (hx1 : iv x1 (-2147483648) 2147483647) : Met l yX9_judge (wz yX9_judge cX9_judge 6 (some .int)) { frames := 0, cells := 0, slots := 0, locals := 0 } (TP D vwCl (tysOf c0) H [.ref a0, .int x1]) (TQi (fun x H' => H' = H ∧ (((x1.toInt < 0 ∨ 3 < x1.toInt) ∧ x.toInt = -2) ∨ (0 ≤ x1.toInt ∧ x1.toInt ≤ 3 ∧ x.toInt = -6))) Y) 0 0 (pA Y) := by
  refine Met.ofW (cc := cX9_judge) (maxL := 6) (ret := (some .int)) (by decide) rfl ?_
  intro p e s m args below meth c s₁ B hml hv
  obtain ⟨rfl, rfl, hK⟩ := hv
  have hx := B.exec
  have hb := B.bytes
  have hr := B.returns
  have hts : ∀ w ∈ wq, w.before _ s = true := fun w h => atoms_spec (ws := wz yX9_judge cX9_judge 6 (some .int)) B.pre w (List.mem_cons_of_mem _ h)
  have hown : s.vm.findClass RX9 = some m.cls := findClass_of_methodNamed B.named
  have hlocks := B.notSynchronized
  obtain ⟨R, hR⟩ : ∃ R : Room, R = ({ frames := 0, cells := 0, slots := 0, locals := 0 } : Room) := ⟨_, rfl⟩
  rw [show (headSpec (wz yX9_judge cX9_judge 6 (some .int)) { frames := 0, cells := 0, slots := 0, locals := 0 }).room = R from hR.symm]
  refine ti_mi hx hb hr hlocks (fun Q ret => ?_)
  have hl := lv_entry [.ref a0, .int x1] (n := 6) (Nat.le_of_ble_eq_true rfl)
  rw [lg_entry_eq]
  generalize (lg_sl [.ref a0, .int x1] ++ List.replicate (6 - (lg_sl [.ref a0, .int x1]).length) Slot.unset).toArray = ls at hl ⊢
  have hl : lv_has ls 6 [(0, .ref a0), (1, .int x1)] := hl
  have hS : va_S (pA Y) s.heap s.heap [] := va_S.rf
  refine lv_iload_n hx hb dX9_judge_0 rfl (lv_at hl 1 rfl) ?_
  refine lv_if_lt (tgt := 9) hx hb dX9_judge_1 (by decide) (fun c1 => ?_) (fun c1 => ?_)
  · skip
    have kl0 : (0 : Int32).toInt = 0 := by decide
    have f1 := i_lt c1
    have hx1_1l : iv x1 (-2147483648) (-1) := iv_ltl hx1 (iv_c (x := (0 : Int32)) (k := 0) (by decide)) c1 (by decide)
    refine lv_bipush (v := (-2)) hx hb dX9_judge_9 (by decide) ?_
    have klm2 : (-2 : Int32).toInt = (-2) := by decide
    exact ret _ _ _ _ _ dX9_judge_11 (⟨rfl, by have b0a := (hx1_1l).1; have b0b := (hx1_1l).2; omega⟩) hS
  · skip
    have kl0 : (0 : Int32).toInt = 0 := by decide
    have f1 := i_nlt c1
    have hx1_1r : iv x1 0 2147483647 := iv_ler (iv_c (x := (0 : Int32)) (k := 0) (by decide)) hx1 (Int32.not_lt.mp c1) (by decide)
    refine lv_iload_n hx hb dX9_judge_4 rfl (lv_at hl 1 rfl) ?_
    refine lv_iconst (v := 4) hx hb dX9_judge_5 (by decide) ?_
    refine lv_icmp_lt (tgt := 12) hx hb dX9_judge_6 (by decide) (fun c6 => ?_) (fun c6 => ?_)
    · skip
      have kl4 : (4 : Int32).toInt = 4 := by decide
      have f6 := i_lt c6
      have hx1_6l : iv x1 0 3 := iv_ltl hx1_1r (iv_c (x := (4 : Int32)) (k := 4) (by decide)) c6 (by decide)
      refine lv_aload_n hx hb dX9_judge_12 rfl (lv_at hl 0 rfl) ?_
      refine ti_getr hx hb hts inlX9 hown hK hT ha0 rfl rfl 5 (by decide) (hts _ kw_26) (fun _ h9 => h9) rfl dX9_judge_13 (fun v13 hv13 => ?_)
      refine lv_iload_n hx hb dX9_judge_16 rfl (lv_at hl 1 rfl) ?_
      refine ti_aald hx hb (aT5 hK) hT hv13 rfl hx1_6l (by decide) (fun _ _ _ => rfl) dX9_judge_17 (fun v17 hv17 => ?_)
      refine lv_astore_n (lv' := [(2, .ref v17), (0, .ref a0), (1, .int x1)]) hx hb dX9_judge_18 rfl hl (by decide) rfl (fun ls hl => ?_)
      refine lv_aload_n hx hb dX9_judge_19 rfl (lv_at hl 0 rfl) ?_
      refine ti_geti hx hb hts inlX5 hown hK hT hv17 rfl rfl 0 (by decide) (hts _ kw_799) (fun _ h9 => h9) rfl dX9_judge_20 (fun v20 hv20 => ?_)
      refine lv_if_ne (tgt := 29) hx hb dX9_judge_23 (by decide) (fun c23 => ?_) (fun c23 => ?_)
      · skip
        have f23 := i_ne c23
        exact (iv_no (show iv v20 1 (-1) from iv_nel hv20 (iv_c (x := (0 : Int32)) (k := 0) (by decide)) c23 (by decide)) (by decide)).elim
      · skip
        have f23 := i_eq c23
        refine lv_bipush (v := (-6)) hx hb dX9_judge_26 (by decide) ?_
        have klm6 : (-6 : Int32).toInt = (-6) := by decide
        exact ret _ _ _ _ _ dX9_judge_28 (⟨rfl, by have b0a := (hx1_6l).1; have b0b := (hx1_6l).2; have b1a := (hv20).1; have b1b := (hv20).2; omega⟩) hS
    · skip
      have kl4 : (4 : Int32).toInt = 4 := by decide
      have f6 := i_nlt c6
      have hx1_6r : iv x1 4 2147483647 := iv_ler (iv_c (x := (4 : Int32)) (k := 4) (by decide)) hx1_1r (Int32.not_lt.mp c6) (by decide)
      refine lv_bipush (v := (-2)) hx hb dX9_judge_9 (by decide) ?_
      have klm2 : (-2 : Int32).toInt = (-2) := by decide
      exact ret _ _ _ _ _ dX9_judge_11 (⟨rfl, by have b0a := (hx1_6r).1; have b0b := (hx1_6r).2; omega⟩) hS
set_option maxHeartbeats 4000000 in
set_option maxRecDepth 100000 in
theorem t_X9_run (l : Launch) {D : va_G} {c0 : Nat → ClassId} {Y : Nat → Option Nat} {H : Heap} (hT : TI D vwCl (tysOf c0) (RT1 false) Y H) {a0 : Nat} (ha0 : Y a0 = some 9) {x1 : Int32} (hx1 : iv x1 (-2147483648) 2147483647) : Met l yX9_run (wz yX9_run cX9_run 4 (some .int)) { frames := 2, cells := 0, slots := 0, locals := 41 } (TP D vwCl (tysOf c0) H [.ref a0, .int x1]) (TQi (fun x H' => H' = H ∧ iv x (-2) (-2)) Y) 0 0 (pA Y) := by
  refine Met.ofW (cc := cX9_run) (maxL := 4) (ret := (some .int)) (by decide) rfl ?_
  intro p e s m args below meth c s₁ B hml hv
  obtain ⟨rfl, rfl, hK⟩ := hv
  have hx := B.exec
  have hb := B.bytes
  have hr := B.returns
  have hts : ∀ w ∈ wq, w.before _ s = true := fun w h => atoms_spec (ws := wz yX9_run cX9_run 4 (some .int)) B.pre w (List.mem_cons_of_mem _ h)
  have hown : s.vm.findClass RX9 = some m.cls := findClass_of_methodNamed B.named
  have hlocks := B.notSynchronized
  obtain ⟨R, hR⟩ : ∃ R : Room, R = ({ frames := 2, cells := 0, slots := 0, locals := 41 } : Room) := ⟨_, rfl⟩
  rw [show (headSpec (wz yX9_run cX9_run 4 (some .int)) { frames := 2, cells := 0, slots := 0, locals := 41 }).room = R from hR.symm]
  refine ti_mi hx hb hr hlocks (fun Q ret => ?_)
  have hl := lv_entry [.ref a0, .int x1] (n := 4) (Nat.le_of_ble_eq_true rfl)
  rw [lg_entry_eq]
  generalize (lg_sl [.ref a0, .int x1] ++ List.replicate (4 - (lg_sl [.ref a0, .int x1]).length) Slot.unset).toArray = ls at hl ⊢
  have hl : lv_has ls 4 [(0, .ref a0), (1, .int x1)] := hl
  have hS : va_S (pA Y) s.heap s.heap [] := va_S.rf
  refine lv_aload_n hx hb dX9_run_0 rfl (lv_at hl 0 rfl) ?_
  refine lv_iload_n hx hb dX9_run_1 rfl (lv_at hl 1 rfl) ?_
  refine ti_calli (va_runV (As := [.int x1]) (rest := []) ⟨hx, hb, hml, hown, hts⟩ (t_X9_canPass l hT ha0 (iv_w hx1 (by decide))) (cwV 1 hts (good_V kw_833 kw_834 kw_835 kw_2 kw_836) rfl rfl rfl (by decide +kernel) ⟨by rw [hR]; decide, by rw [hR]; decide⟩) (ti_preV hK hT ha0 rfl rfl) rfl rfl hl.1 rfl (lv_room (Nat.le_of_ble_eq_true rfl)) dX9_run_2 ⟨Nat.zero_le _, Nat.zero_le _⟩) hS (fun _ h => h) (fun v2 H1 locs hB hS _ _ => ?_)
  obtain ⟨hH, hv2⟩ := hB
  rw [hH] at hS ⊢
  refine lv_if_ne (tgt := 11) hx hb dX9_run_5 (by decide) (fun c5 => ?_) (fun c5 => ?_)
  · skip
    have kl0 : (0 : Int32).toInt = 0 := by decide
    have f5 := i_ne c5
    exact (iv_no (show iv v2 1 (-1) from iv_nel hv2 (iv_c (x := (0 : Int32)) (k := 0) (by decide)) c5 (by decide)) (by decide)).elim
  · skip
    have kl0 : (0 : Int32).toInt = 0 := by decide
    have f5 := i_eq c5
    refine lv_bipush (v := (-2)) hx hb dX9_run_8 (by decide) ?_
    exact ret _ _ _ _ _ dX9_run_10 (⟨rfl, iv_w (iv_c (x := (-2 : Int32)) (k := (-2)) (by decide)) (by decide)⟩) hS
set_option maxHeartbeats 4000000 in
set_option maxRecDepth 100000 in
theorem t_X9_value (l : Launch) {D : va_G} {c0 : Nat → ClassId} {Y : Nat → Option Nat} {H : Heap} (hT : TI D vwCl (tysOf c0) (RT1 false) Y H) {a0 : Nat} (ha0 : Y a0 = some 9) {x1 : Int32} (hx1 : iv x1 (-2147483648) 2147483647) {x2 : Int32} (hx2 : iv x2 (-2147483648) 2147483647) {x3 : Int32} (hx3 : iv x3 (-2147483648) 2147483647) {x4 : Int32} (hx4 : iv x4 (-2147483648) 2147483647) {x5 : Int32} (hx5 : iv x5 (-2147483648) 2147483647) : Met l yX9_value (wz yX9_value cX9_value 6 (some .int)) { frames := 2, cells := 0, slots := 0, locals := 54 } (TP D vwCl (tysOf c0) H [.ref a0, .int x1, .int x2, .int x3, .int x4, .int x5]) (TQi (fun x H' => H' = H ∧ iv x (-2000000000) (-2000000000)) Y) 0 0 (pA Y) := by
  refine Met.ofW (cc := cX9_value) (maxL := 6) (ret := (some .int)) (by decide) rfl ?_
  intro p e s m args below meth c s₁ B hml hv
  obtain ⟨rfl, rfl, hK⟩ := hv
  have hx := B.exec
  have hb := B.bytes
  have hr := B.returns
  have hts : ∀ w ∈ wq, w.before _ s = true := fun w h => atoms_spec (ws := wz yX9_value cX9_value 6 (some .int)) B.pre w (List.mem_cons_of_mem _ h)
  have hown : s.vm.findClass RX9 = some m.cls := findClass_of_methodNamed B.named
  have hlocks := B.notSynchronized
  obtain ⟨R, hR⟩ : ∃ R : Room, R = ({ frames := 2, cells := 0, slots := 0, locals := 54 } : Room) := ⟨_, rfl⟩
  rw [show (headSpec (wz yX9_value cX9_value 6 (some .int)) { frames := 2, cells := 0, slots := 0, locals := 54 }).room = R from hR.symm]
  refine ti_mi hx hb hr hlocks (fun Q ret => ?_)
  have hl := lv_entry [.ref a0, .int x1, .int x2, .int x3, .int x4, .int x5] (n := 6) (Nat.le_of_ble_eq_true rfl)
  rw [lg_entry_eq]
  generalize (lg_sl [.ref a0, .int x1, .int x2, .int x3, .int x4, .int x5] ++ List.replicate (6 - (lg_sl [.ref a0, .int x1, .int x2, .int x3, .int x4, .int x5]).length) Slot.unset).toArray = ls at hl ⊢
  have hl : lv_has ls 6 [(0, .ref a0), (1, .int x1), (2, .int x2), (3, .int x3), (4, .int x4), (5, .int x5)] := hl
  have hS : va_S (pA Y) s.heap s.heap [] := va_S.rf
  refine lv_aload_n hx hb dX9_value_0 rfl (lv_at hl 0 rfl) ?_
  refine lv_aload_n hx hb dX9_value_1 rfl (lv_at hl 0 rfl) ?_
  refine ti_getr hx hb hts inlX9 hown hK hT ha0 rfl rfl 1 (by decide) (hts _ kw_20) (fun _ h9 => h9) rfl dX9_value_2 (fun v2 hv2 => ?_)
  refine lv_iload_n hx hb dX9_value_5 rfl (lv_at hl 1 rfl) ?_
  refine lv_i2l hx hb dX9_value_6 rfl ?_
  refine lv_topl (fun v6 e6 => ?_)
  have hv6 : jv v6 (-2147483648) 2147483647 := by rw [e6]; exact jv_i hx1
  have t6 : v6.toInt = x1.toInt := by rw [e6]; exact jv_e _
  refine lv_iload_n hx hb dX9_value_7 rfl (lv_at hl 2 rfl) ?_
  refine lv_i2l hx hb dX9_value_8 rfl ?_
  refine lv_topl (fun v8 e8 => ?_)
  have hv8 : jv v8 (-2147483648) 2147483647 := by rw [e8]; exact jv_i hx2
  have t8 : v8.toInt = x2.toInt := by rw [e8]; exact jv_e _
  refine lv_iload_n hx hb dX9_value_9 rfl (lv_at hl 3 rfl) ?_
  refine lv_i2l hx hb dX9_value_10 rfl ?_
  refine lv_topl (fun v10 e10 => ?_)
  have hv10 : jv v10 (-2147483648) 2147483647 := by rw [e10]; exact jv_i hx3
  have t10 : v10.toInt = x3.toInt := by rw [e10]; exact jv_e _
  refine lv_iload hx hb dX9_value_11 (lv_at hl 4 rfl) ?_
  refine lv_i2l hx hb dX9_value_13 rfl ?_
  refine lv_topl (fun v13 e13 => ?_)
  have hv13 : jv v13 (-2147483648) 2147483647 := by rw [e13]; exact jv_i hx4
  have t13 : v13.toInt = x4.toInt := by rw [e13]; exact jv_e _
  refine lv_iload hx hb dX9_value_14 (lv_at hl 5 rfl) ?_
  refine lv_i2l hx hb dX9_value_16 rfl ?_
  refine lv_topl (fun v16 e16 => ?_)
  have hv16 : jv v16 (-2147483648) 2147483647 := by rw [e16]; exact jv_i hx5
  have t16 : v16.toInt = x5.toInt := by rw [e16]; exact jv_e _
  refine ti_calli (va_runV (As := [.ref v2, .long v6, .long v8, .long v10, .long v13, .long v16]) (rest := []) ⟨hx, hb, hml, hown, hts⟩ (t_X9_whyNot l hT ha0 hv2 (jv_w hv6 (by decide)) (jv_w hv8 (by decide)) (jv_w hv10 (by decide)) (jv_w hv13 (by decide)) (jv_w hv16 (by decide))) (cwV 6 hts (good_V kw_756 kw_757 kw_758 kw_2 kw_759) rfl rfl rfl (by decide +kernel) ⟨by rw [hR]; decide, by rw [hR]; decide⟩) (ti_preV hK hT ha0 rfl rfl) rfl rfl hl.1 rfl (lv_room (Nat.le_of_ble_eq_true rfl)) dX9_value_17 ⟨Nat.zero_le _, Nat.zero_le _⟩) hS (fun _ h => h) (fun v17 H1 locs hB hS _ _ => ?_)
  obtain ⟨hH, hv17⟩ := hB
  rw [hH] at hS ⊢
  refine lv_if_eq (tgt := 26) hx hb dX9_value_20 (by decide) (fun c20 => ?_) (fun c20 => ?_)
  · skip
    have kl0 : (0 : Int32).toInt = 0 := by decide
    have f20 := i_eq c20
    exact (iv_no (show iv v17 0 (-2) from iv_eql hv17 (iv_c (x := (0 : Int32)) (k := 0) (by decide)) c20 (by decide)) (by decide)).elim
  · skip
    have kl0 : (0 : Int32).toInt = 0 := by decide
    have f20 := i_ne c20
    refine lv_ldc (v := (-2000000000)) hx hb hown (hts _ kw_1003) dX9_value_23 ?_
    exact ret _ _ _ _ _ dX9_value_25 (⟨rfl, iv_w (iv_c (x := (-2000000000 : Int32)) (k := (-2000000000)) (by decide)) (by decide)⟩) hS
set_option maxHeartbeats 4000000 in
set_option maxRecDepth 100000 in
theorem t_X9_best (l : Launch) {D : va_G} {c0 : Nat → ClassId} {Y : Nat → Option Nat} {H : Heap} (hT : TI D vwCl (tysOf c0) (RT1 false) Y H) {a0 : Nat} (ha0 : Y a0 = some 9) {x1 : Int32} (hx1 : iv x1 (-2147483648) 2147483647) {x2 : Int32} (hx2 : iv x2 (-2147483648) 2147483647) : Met l yX9_best (wz yX9_best cX9_best 3 (some .int)) { frames := 1, cells := 0, slots := 0, locals := 22 } (TP D vwCl (tysOf c0) H [.ref a0, .int x1, .int x2]) (TQi (fun x H' => H' = H ∧ ((x2.toInt = 0 ∧ x.toInt = -2000000000) ∨ (¬ x2.toInt = 0 ∧ x.toInt = -2))) Y) 0 0 (pA Y) := by
  refine Met.ofW (cc := cX9_best) (maxL := 3) (ret := (some .int)) (by decide) rfl ?_
  intro p e s m args below meth c s₁ B hml hv
  obtain ⟨rfl, rfl, hK⟩ := hv
  have hx := B.exec
  have hb := B.bytes
  have hr := B.returns
  have hts : ∀ w ∈ wq, w.before _ s = true := fun w h => atoms_spec (ws := wz yX9_best cX9_best 3 (some .int)) B.pre w (List.mem_cons_of_mem _ h)
  have hown : s.vm.findClass RX9 = some m.cls := findClass_of_methodNamed B.named
  have hlocks := B.notSynchronized
  obtain ⟨R, hR⟩ : ∃ R : Room, R = ({ frames := 1, cells := 0, slots := 0, locals := 22 } : Room) := ⟨_, rfl⟩
  rw [show (headSpec (wz yX9_best cX9_best 3 (some .int)) { frames := 1, cells := 0, slots := 0, locals := 22 }).room = R from hR.symm]
  refine ti_mi hx hb hr hlocks (fun Q ret => ?_)
  have hl := lv_entry [.ref a0, .int x1, .int x2] (n := 3) (Nat.le_of_ble_eq_true rfl)
  rw [lg_entry_eq]
  generalize (lg_sl [.ref a0, .int x1, .int x2] ++ List.replicate (3 - (lg_sl [.ref a0, .int x1, .int x2]).length) Slot.unset).toArray = ls at hl ⊢
  have hl : lv_has ls 3 [(0, .ref a0), (1, .int x1), (2, .int x2)] := hl
  have hS : va_S (pA Y) s.heap s.heap [] := va_S.rf
  refine lv_aload_n hx hb dX9_best_0 rfl (lv_at hl 0 rfl) ?_
  refine lv_iload_n hx hb dX9_best_1 rfl (lv_at hl 1 rfl) ?_
  refine lv_i2l hx hb dX9_best_2 rfl ?_
  refine lv_topl (fun v2 e2 => ?_)
  have hv2 : jv v2 (-2147483648) 2147483647 := by rw [e2]; exact jv_i hx1
  have t2 : v2.toInt = x1.toInt := by rw [e2]; exact jv_e _
  refine ti_calli (va_runV (As := [.long v2]) (rest := []) ⟨hx, hb, hml, hown, hts⟩ (t_X9_isPerson l hT ha0 (jv_w hv2 (by decide))) (cwV 1 hts (good_V kw_476 kw_477 kw_478 kw_2 kw_479) rfl rfl rfl (by decide +kernel) ⟨by rw [hR]; decide, by rw [hR]; decide⟩) (ti_preV hK hT ha0 rfl rfl) rfl rfl hl.1 rfl (lv_room (Nat.le_of_ble_eq_true rfl)) dX9_best_3 ⟨Nat.zero_le _, Nat.zero_le _⟩) hS (fun _ h => h) (fun v3 H1 locs hB hS _ _ => ?_)
  obtain ⟨hH, hv3⟩ := hB
  rw [hH] at hS ⊢
  have J18 : ∀  (locs : List Loc) (ls : Array Slot), va_S (pA Y) s.heap s.heap locs → lv_has ls 3 [(0, .ref a0), (1, .int x1), (2, .int x2)] → W p l e R s m ([.ref a0, .int x1, .int x2] : List Value).toArray below meth c s.heap locs 0 0 Q (F0 m 18 ls []) := by
    intro  locs ls  hS hl
    refine lv_iload_n hx hb dX9_best_18 rfl (lv_at hl 2 rfl) ?_
    refine lv_if_ne (tgt := 27) hx hb dX9_best_19 (by decide) (fun c19 => ?_) (fun c19 => ?_)
    · skip
      have kl0 : (0 : Int32).toInt = 0 := by decide
      have f19 := i_ne c19
      refine lv_bipush (v := (-2)) hx hb dX9_best_27 (by decide) ?_
      have klm2 : (-2 : Int32).toInt = (-2) := by decide
      exact ret _ _ _ _ _ dX9_best_29 (⟨rfl, by have b0a := (hx1).1; have b0b := (hx1).2; have b1a := (hx2).1; have b1b := (hx2).2; have b2a := (hv2).1; have b2b := (hv2).2; have b3a := (hv3).1; have b3b := (hv3).2; omega⟩) hS
    · skip
      have kl0 : (0 : Int32).toInt = 0 := by decide
      have f19 := i_eq c19
      have hx2_19l : iv x2 0 0 := iv_eql hx2 (iv_c (x := (0 : Int32)) (k := 0) (by decide)) c19 (by decide)
      refine lv_ldc (v := (-2000000000)) hx hb hown (hts _ kw_1003) dX9_best_22 ?_
      refine lv_goto (tgt := 29) hx hb dX9_best_24 (by decide) ?_
      have klm2000000000 : (-2000000000 : Int32).toInt = (-2000000000) := by decide
      exact ret _ _ _ _ _ dX9_best_29 (⟨rfl, by have b0a := (hx1).1; have b0b := (hx1).2; have b1a := (hx2_19l).1; have b1b := (hx2_19l).2; have b2a := (hv2).1; have b2b := (hv2).2; have b3a := (hv3).1; have b3b := (hv3).2; omega⟩) hS
  refine lv_if_eq (tgt := 18) hx hb dX9_best_6 (by decide) (fun c6 => ?_) (fun c6 => ?_)
  · skip
    have kl0 : (0 : Int32).toInt = 0 := by decide
    have f6 := i_eq c6
    exact J18  _ _    hS (lv_sub hl [0, 1, 2] rfl)
  · skip
    have kl0 : (0 : Int32).toInt = 0 := by decide
    have f6 := i_ne c6
    exact (iv_no (show iv v3 1 (-1) from iv_nel hv3 (iv_c (x := (0 : Int32)) (k := 0) (by decide)) c6 (by decide)) (by decide)).elim
set_option maxHeartbeats 4000000 in
set_option maxRecDepth 100000 in
theorem t_X9_gift (l : Launch) {D : va_G} {c0 : Nat → ClassId} {Y : Nat → Option Nat} {H : Heap} (hT : TI D vwCl (tysOf c0) (RT1 false) Y H) {a0 : Nat} (ha0 : Y a0 = some 9) {x1 : Int32} (hx1 : iv x1 (-2147483648) 2147483647) {x2 : Int32} (hx2 : iv x2 (-2147483648) 2147483647) : Met l yX9_gift (wz yX9_gift cX9_gift 3 (some .int)) { frames := 2, cells := 0, slots := 0, locals := 44 } (TP D vwCl (tysOf c0) H [.ref a0, .int x1, .int x2]) (TQi (fun x H' => H' = H ∧ iv x (-2) (-2)) Y) 0 0 (pA Y) := by
  refine Met.ofW (cc := cX9_gift) (maxL := 3) (ret := (some .int)) (by decide) rfl ?_
  intro p e s m args below meth c s₁ B hml hv
  obtain ⟨rfl, rfl, hK⟩ := hv
  have hx := B.exec
  have hb := B.bytes
  have hr := B.returns
  have hts : ∀ w ∈ wq, w.before _ s = true := fun w h => atoms_spec (ws := wz yX9_gift cX9_gift 3 (some .int)) B.pre w (List.mem_cons_of_mem _ h)
  have hown : s.vm.findClass RX9 = some m.cls := findClass_of_methodNamed B.named
  have hlocks := B.notSynchronized
  obtain ⟨R, hR⟩ : ∃ R : Room, R = ({ frames := 2, cells := 0, slots := 0, locals := 44 } : Room) := ⟨_, rfl⟩
  rw [show (headSpec (wz yX9_gift cX9_gift 3 (some .int)) { frames := 2, cells := 0, slots := 0, locals := 44 }).room = R from hR.symm]
  refine ti_mi hx hb hr hlocks (fun Q ret => ?_)
  have hl := lv_entry [.ref a0, .int x1, .int x2] (n := 3) (Nat.le_of_ble_eq_true rfl)
  rw [lg_entry_eq]
  generalize (lg_sl [.ref a0, .int x1, .int x2] ++ List.replicate (3 - (lg_sl [.ref a0, .int x1, .int x2]).length) Slot.unset).toArray = ls at hl ⊢
  have hl : lv_has ls 3 [(0, .ref a0), (1, .int x1), (2, .int x2)] := hl
  have hS : va_S (pA Y) s.heap s.heap [] := va_S.rf
  refine lv_aload_n hx hb dX9_gift_0 rfl (lv_at hl 0 rfl) ?_
  refine lv_iload_n hx hb dX9_gift_1 rfl (lv_at hl 1 rfl) ?_
  refine lv_iload_n hx hb dX9_gift_2 rfl (lv_at hl 2 rfl) ?_
  refine ti_calli (va_runV (As := [.int x1, .int x2]) (rest := []) ⟨hx, hb, hml, hown, hts⟩ (t_X9_arePair l hT ha0 (iv_w hx1 (by decide)) (iv_w hx2 (by decide))) (cwV 2 hts (good_V kw_529 kw_530 kw_531 kw_2 kw_532) rfl rfl rfl (by decide +kernel) ⟨by rw [hR]; decide, by rw [hR]; decide⟩) (ti_preV hK hT ha0 rfl rfl) rfl rfl hl.1 rfl (lv_room (Nat.le_of_ble_eq_true rfl)) dX9_gift_3 ⟨Nat.zero_le _, Nat.zero_le _⟩) hS (fun _ h => h) (fun v3 H1 locs hB hS _ _ => ?_)
  obtain ⟨hH, hv3⟩ := hB
  rw [hH] at hS ⊢
  refine lv_if_eq (tgt := 18) hx hb dX9_gift_6 (by decide) (fun c6 => ?_) (fun c6 => ?_)
  · skip
    have kl0 : (0 : Int32).toInt = 0 := by decide
    have f6 := i_eq c6
    refine lv_bipush (v := (-2)) hx hb dX9_gift_18 (by decide) ?_
    exact ret _ _ _ _ _ dX9_gift_20 (⟨rfl, iv_w (iv_c (x := (-2 : Int32)) (k := (-2)) (by decide)) (by decide)⟩) hS
  · skip
    have kl0 : (0 : Int32).toInt = 0 := by decide
    have f6 := i_ne c6
    exact (iv_no (show iv v3 1 (-1) from iv_nel hv3 (iv_c (x := (0 : Int32)) (k := 0) (by decide)) c6 (by decide)) (by decide)).elim
set_option maxHeartbeats 4000000 in
set_option maxRecDepth 100000 in
theorem t_X9_gifts (l : Launch) {D : va_G} {c0 : Nat → ClassId} {Y : Nat → Option Nat} {H : Heap} (hT : TI D vwCl (tysOf c0) (RT1 false) Y H) {a0 : Nat} (ha0 : Y a0 = some 9) {x1 : Int32} (hx1 : iv x1 (-2147483648) 2147483647) : Met l yX9_gifts (wz yX9_gifts cX9_gifts 6 (some .int)) { frames := 1, cells := 0, slots := 0, locals := 22 } (TP D vwCl (tysOf c0) H [.ref a0, .int x1]) (TQi (fun x H' => H' = H ∧ iv x (-2) (-2)) Y) 0 0 (pA Y) := by
  refine Met.ofW (cc := cX9_gifts) (maxL := 6) (ret := (some .int)) (by decide) rfl ?_
  intro p e s m args below meth c s₁ B hml hv
  obtain ⟨rfl, rfl, hK⟩ := hv
  have hx := B.exec
  have hb := B.bytes
  have hr := B.returns
  have hts : ∀ w ∈ wq, w.before _ s = true := fun w h => atoms_spec (ws := wz yX9_gifts cX9_gifts 6 (some .int)) B.pre w (List.mem_cons_of_mem _ h)
  have hown : s.vm.findClass RX9 = some m.cls := findClass_of_methodNamed B.named
  have hlocks := B.notSynchronized
  obtain ⟨R, hR⟩ : ∃ R : Room, R = ({ frames := 1, cells := 0, slots := 0, locals := 22 } : Room) := ⟨_, rfl⟩
  rw [show (headSpec (wz yX9_gifts cX9_gifts 6 (some .int)) { frames := 1, cells := 0, slots := 0, locals := 22 }).room = R from hR.symm]
  refine ti_mi hx hb hr hlocks (fun Q ret => ?_)
  have hl := lv_entry [.ref a0, .int x1] (n := 6) (Nat.le_of_ble_eq_true rfl)
  rw [lg_entry_eq]
  generalize (lg_sl [.ref a0, .int x1] ++ List.replicate (6 - (lg_sl [.ref a0, .int x1]).length) Slot.unset).toArray = ls at hl ⊢
  have hl : lv_has ls 6 [(0, .ref a0), (1, .int x1)] := hl
  have hS : va_S (pA Y) s.heap s.heap [] := va_S.rf
  refine lv_aload_n hx hb dX9_gifts_0 rfl (lv_at hl 0 rfl) ?_
  refine lv_iload_n hx hb dX9_gifts_1 rfl (lv_at hl 1 rfl) ?_
  refine lv_i2l hx hb dX9_gifts_2 rfl ?_
  refine lv_topl (fun v2 e2 => ?_)
  have hv2 : jv v2 (-2147483648) 2147483647 := by rw [e2]; exact jv_i hx1
  have t2 : v2.toInt = x1.toInt := by rw [e2]; exact jv_e _
  refine ti_calli (va_runV (As := [.long v2]) (rest := []) ⟨hx, hb, hml, hown, hts⟩ (t_X9_isPerson l hT ha0 (jv_w hv2 (by decide))) (cwV 1 hts (good_V kw_476 kw_477 kw_478 kw_2 kw_479) rfl rfl rfl (by decide +kernel) ⟨by rw [hR]; decide, by rw [hR]; decide⟩) (ti_preV hK hT ha0 rfl rfl) rfl rfl hl.1 rfl (lv_room (Nat.le_of_ble_eq_true rfl)) dX9_gifts_3 ⟨Nat.zero_le _, Nat.zero_le _⟩) hS (fun _ h => h) (fun v3 H1 locs hB hS _ _ => ?_)
  obtain ⟨hH, hv3⟩ := hB
  rw [hH] at hS ⊢
  refine lv_if_ne (tgt := 12) hx hb dX9_gifts_6 (by decide) (fun c6 => ?_) (fun c6 => ?_)
  · skip
    have kl0 : (0 : Int32).toInt = 0 := by decide
    have f6 := i_ne c6
    exact (iv_no (show iv v3 1 (-1) from iv_nel hv3 (iv_c (x := (0 : Int32)) (k := 0) (by decide)) c6 (by decide)) (by decide)).elim
  · skip
    have kl0 : (0 : Int32).toInt = 0 := by decide
    have f6 := i_eq c6
    refine lv_bipush (v := (-2)) hx hb dX9_gifts_9 (by decide) ?_
    exact ret _ _ _ _ _ dX9_gifts_11 (⟨rfl, iv_w (iv_c (x := (-2 : Int32)) (k := (-2)) (by decide)) (by decide)⟩) hS
