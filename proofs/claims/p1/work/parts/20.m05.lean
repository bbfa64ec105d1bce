set_option maxHeartbeats 4000000 in
set_option maxRecDepth 100000 in
theorem t_X10_quiet (l : Launch) {D : va_G} {c0 : Nat → ClassId} {Y : Nat → Option Nat} {H : Heap} (hT : TI D vwCl (tysOf c0) (RT1 false) Y H) {a0 : Nat} (ha0 : Y a0 = some 10) {x1 : Int32} (hx1 : iv x1 (-2147483648) 2147483647) {x2 : Int32} (hx2 : iv x2 (-2147483648) 2147483647) : Met l yX10_quiet (wz yX10_quiet cX10_quiet 6 (some .int)) { frames := 2, cells := 0, slots := 0, locals := 41 } (TP D vwCl (tysOf c0) H [.ref a0, .int x1, .int x2]) (TQi (fun x H' => H' = H ∧ iv x (-2) (-2)) Y) 0 0 (pA Y) := by
  refine Met.ofW (cc := cX10_quiet) (maxL := 6) (ret := (some .int)) (by decide) rfl ?_
  intro p e s m args below meth c s₁ B hml hv
  obtain ⟨rfl, rfl, hK⟩ := hv
  have hx := B.exec
  have hb := B.bytes
  have hr := B.returns
  have hts : ∀ w ∈ wq, w.before _ s = true := fun w h => atoms_spec (ws := wz yX10_quiet cX10_quiet 6 (some .int)) B.pre w (List.mem_cons_of_mem _ h)
  have hown : s.vm.findClass RX10 = some m.cls := findClass_of_methodNamed B.named
  have hlocks := B.notSynchronized
  obtain ⟨R, hR⟩ : ∃ R : Room, R = ({ frames := 2, cells := 0, slots := 0, locals := 41 } : Room) := ⟨_, rfl⟩
  rw [show (headSpec (wz yX10_quiet cX10_quiet 6 (some .int)) { frames := 2, cells := 0, slots := 0, locals := 41 }).room = R from hR.symm]
  refine ti_mi hx hb hr hlocks (fun Q ret => ?_)
  have hl := lv_entry [.ref a0, .int x1, .int x2] (n := 6) (Nat.le_of_ble_eq_true rfl)
  rw [lg_entry_eq]
  generalize (lg_sl [.ref a0, .int x1, .int x2] ++ List.replicate (6 - (lg_sl [.ref a0, .int x1, .int x2]).length) Slot.unset).toArray = ls at hl ⊢
  have hl : lv_has ls 6 [(0, .ref a0), (1, .int x1), (2, .int x2)] := hl
  have hS : va_S (pA Y) s.heap s.heap [] := va_S.rf
  refine lv_aload_n hx hb dX10_quiet_0 rfl (lv_at hl 0 rfl) ?_
  refine lv_iload_n hx hb dX10_quiet_1 rfl (lv_at hl 1 rfl) ?_
  refine ti_calli (va_runV (As := [.int x1]) (rest := []) ⟨hx, hb, hml, hown, hts⟩ (t_X10_isRun l hT ha0 (iv_w hx1 (by decide))) (cwV 1 hts (good_V kw_935 kw_936 kw_937 kw_5 kw_938) rfl rfl rfl (by decide +kernel) ⟨by rw [hR]; decide, by rw [hR]; decide⟩) (ti_preV hK hT ha0 rfl rfl) rfl rfl hl.1 rfl (lv_room (Nat.le_of_ble_eq_true rfl)) dX10_quiet_2 ⟨Nat.zero_le _, Nat.zero_le _⟩) hS (fun _ h => h) (fun v2 H1 locs hB hS _ _ => ?_)
  obtain ⟨hH, hv2⟩ := hB
  rw [hH] at hS ⊢
  refine lv_if_eq (tgt := 18) hx hb dX10_quiet_5 (by decide) (fun c5 => ?_) (fun c5 => ?_)
  · skip
    have kl0 : (0 : Int32).toInt = 0 := by decide
    have f5 := i_eq c5
    refine lv_bipush (v := (-2)) hx hb dX10_quiet_18 (by decide) ?_
    exact ret _ _ _ _ _ dX10_quiet_20 (⟨rfl, iv_w (iv_c (x := (-2 : Int32)) (k := (-2)) (by decide)) (by decide)⟩) hS
  · skip
    have kl0 : (0 : Int32).toInt = 0 := by decide
    have f5 := i_ne c5
    exact (iv_no (show iv v2 1 (-1) from iv_nel hv2 (iv_c (x := (0 : Int32)) (k := 0) (by decide)) c5 (by decide)) (by decide)).elim
set_option maxHeartbeats 4000000 in
set_option maxRecDepth 100000 in
theorem t_X10_again (l : Launch) {D : va_G} {c0 : Nat → ClassId} {Y : Nat → Option Nat} {H : Heap} (hT : TI D vwCl (tysOf c0) (RT1 false) Y H) {a0 : Nat} (ha0 : Y a0 = some 10) {x1 : Int32} (hx1 : iv x1 (-2147483648) 2147483647) : Met l yX10_again (wz yX10_again cX10_again 5 (some .int)) { frames := 2, cells := 0, slots := 0, locals := 41 } (TP D vwCl (tysOf c0) H [.ref a0, .int x1]) (TQi (fun x H' => H' = H ∧ iv x (-2) (-2)) Y) 0 0 (pA Y) := by
  refine Met.ofW (cc := cX10_again) (maxL := 5) (ret := (some .int)) (by decide) rfl ?_
  intro p e s m args below meth c s₁ B hml hv
  obtain ⟨rfl, rfl, hK⟩ := hv
  have hx := B.exec
  have hb := B.bytes
  have hr := B.returns
  have hts : ∀ w ∈ wq, w.before _ s = true := fun w h => atoms_spec (ws := wz yX10_again cX10_again 5 (some .int)) B.pre w (List.mem_cons_of_mem _ h)
  have hown : s.vm.findClass RX10 = some m.cls := findClass_of_methodNamed B.named
  have hlocks := B.notSynchronized
  obtain ⟨R, hR⟩ : ∃ R : Room, R = ({ frames := 2, cells := 0, slots := 0, locals := 41 } : Room) := ⟨_, rfl⟩
  rw [show (headSpec (wz yX10_again cX10_again 5 (some .int)) { frames := 2, cells := 0, slots := 0, locals := 41 }).room = R from hR.symm]
  refine ti_mi hx hb hr hlocks (fun Q ret => ?_)
  have hl := lv_entry [.ref a0, .int x1] (n := 5) (Nat.le_of_ble_eq_true rfl)
  rw [lg_entry_eq]
  generalize (lg_sl [.ref a0, .int x1] ++ List.replicate (5 - (lg_sl [.ref a0, .int x1]).length) Slot.unset).toArray = ls at hl ⊢
  have hl : lv_has ls 5 [(0, .ref a0), (1, .int x1)] := hl
  have hS : va_S (pA Y) s.heap s.heap [] := va_S.rf
  refine lv_aload_n hx hb dX10_again_0 rfl (lv_at hl 0 rfl) ?_
  refine lv_iload_n hx hb dX10_again_1 rfl (lv_at hl 1 rfl) ?_
  refine ti_calli (va_runV (As := [.int x1]) (rest := []) ⟨hx, hb, hml, hown, hts⟩ (t_X10_isRun l hT ha0 (iv_w hx1 (by decide))) (cwV 1 hts (good_V kw_935 kw_936 kw_937 kw_5 kw_938) rfl rfl rfl (by decide +kernel) ⟨by rw [hR]; decide, by rw [hR]; decide⟩) (ti_preV hK hT ha0 rfl rfl) rfl rfl hl.1 rfl (lv_room (Nat.le_of_ble_eq_true rfl)) dX10_again_2 ⟨Nat.zero_le _, Nat.zero_le _⟩) hS (fun _ h => h) (fun v2 H1 locs hB hS _ _ => ?_)
  obtain ⟨hH, hv2⟩ := hB
  rw [hH] at hS ⊢
  refine lv_if_ne (tgt := 11) hx hb dX10_again_5 (by decide) (fun c5 => ?_) (fun c5 => ?_)
  · skip
    have kl0 : (0 : Int32).toInt = 0 := by decide
    have f5 := i_ne c5
    exact (iv_no (show iv v2 1 (-1) from iv_nel hv2 (iv_c (x := (0 : Int32)) (k := 0) (by decide)) c5 (by decide)) (by decide)).elim
  · skip
    have kl0 : (0 : Int32).toInt = 0 := by decide
    have f5 := i_eq c5
    refine lv_bipush (v := (-2)) hx hb dX10_again_8 (by decide) ?_
    exact ret _ _ _ _ _ dX10_again_10 (⟨rfl, iv_w (iv_c (x := (-2 : Int32)) (k := (-2)) (by decide)) (by decide)⟩) hS
set_option maxHeartbeats 4000000 in
set_option maxRecDepth 100000 in
theorem t_X10_alike (l : Launch) {D : va_G} {c0 : Nat → ClassId} {Y : Nat → Option Nat} {H : Heap} (hT : TI D vwCl (tysOf c0) (RT1 false) Y H) {a0 : Nat} (ha0 : Y a0 = some 10) {x1 : Int32} (hx1 : iv x1 (-2147483648) 2147483647) : Met l yX10_alike (wz yX10_alike cX10_alike 5 (some .int)) { frames := 2, cells := 0, slots := 0, locals := 41 } (TP D vwCl (tysOf c0) H [.ref a0, .int x1]) (TQi (fun x H' => H' = H ∧ iv x (-2) (-2)) Y) 0 0 (pA Y) := by
  refine Met.ofW (cc := cX10_alike) (maxL := 5) (ret := (some .int)) (by decide) rfl ?_
  intro p e s m args below meth c s₁ B hml hv
  obtain ⟨rfl, rfl, hK⟩ := hv
  have hx := B.exec
  have hb := B.bytes
  have hr := B.returns
  have hts : ∀ w ∈ wq, w.before _ s = true := fun w h => atoms_spec (ws := wz yX10_alike cX10_alike 5 (some .int)) B.pre w (List.mem_cons_of_mem _ h)
  have hown : s.vm.findClass RX10 = some m.cls := findClass_of_methodNamed B.named
  have hlocks := B.notSynchronized
  obtain ⟨R, hR⟩ : ∃ R : Room, R = ({ frames := 2, cells := 0, slots := 0, locals := 41 } : Room) := ⟨_, rfl⟩
  rw [show (headSpec (wz yX10_alike cX10_alike 5 (some .int)) { frames := 2, cells := 0, slots := 0, locals := 41 }).room = R from hR.symm]
  refine ti_mi hx hb hr hlocks (fun Q ret => ?_)
  have hl := lv_entry [.ref a0, .int x1] (n := 5) (Nat.le_of_ble_eq_true rfl)
  rw [lg_entry_eq]
  generalize (lg_sl [.ref a0, .int x1] ++ List.replicate (5 - (lg_sl [.ref a0, .int x1]).length) Slot.unset).toArray = ls at hl ⊢
  have hl : lv_has ls 5 [(0, .ref a0), (1, .int x1)] := hl
  have hS : va_S (pA Y) s.heap s.heap [] := va_S.rf
  refine lv_aload_n hx hb dX10_alike_0 rfl (lv_at hl 0 rfl) ?_
  refine lv_iload_n hx hb dX10_alike_1 rfl (lv_at hl 1 rfl) ?_
  refine ti_calli (va_runV (As := [.int x1]) (rest := []) ⟨hx, hb, hml, hown, hts⟩ (t_X10_isRun l hT ha0 (iv_w hx1 (by decide))) (cwV 1 hts (good_V kw_935 kw_936 kw_937 kw_5 kw_938) rfl rfl rfl (by decide +kernel) ⟨by rw [hR]; decide, by rw [hR]; decide⟩) (ti_preV hK hT ha0 rfl rfl) rfl rfl hl.1 rfl (lv_room (Nat.le_of_ble_eq_true rfl)) dX10_alike_2 ⟨Nat.zero_le _, Nat.zero_le _⟩) hS (fun _ h => h) (fun v2 H1 locs hB hS _ _ => ?_)
  obtain ⟨hH, hv2⟩ := hB
  rw [hH] at hS ⊢
  refine lv_if_ne (tgt := 11) hx hb dX10_alike_5 (by decide) (fun c5 => ?_) (fun c5 => ?_)
  · skip
    have kl0 : (0 : Int32).toInt = 0 := by decide
    have f5 := i_ne c5
    exact (iv_no (show iv v2 1 (-1) from iv_nel hv2 (iv_c (x := (0 : Int32)) (k := 0) (by decide)) c5 (by decide)) (by decide)).elim
  · skip
    have kl0 : (0 : Int32).toInt = 0 := by decide
    have f5 := i_eq c5
    refine lv_bipush (v := (-2)) hx hb dX10_alike_8 (by decide) ?_
    exact ret _ _ _ _ _ dX10_alike_10 (⟨rfl, iv_w (iv_c (x := (-2 : Int32)) (k := (-2)) (by decide)) (by decide)⟩) hS
set_option maxHeartbeats 4000000 in
set_option maxRecDepth 100000 in
theorem t_X10_follows (l : Launch) {D : va_G} {c0 : Nat → ClassId} {Y : Nat → Option Nat} {H : Heap} (hT : TI D vwCl (tysOf c0) (RT1 false) Y H) {a0 : Nat} (ha0 : Y a0 = some 10) {x1 : Int32} (hx1 : iv x1 (-2147483648) 2147483647) {x2 : Int32} (hx2 : iv x2 (-2147483648) 2147483647) : Met l yX10_follows (wz yX10_follows cX10_follows 4 (some .int)) { frames := 2, cells := 0, slots := 0, locals := 46 } (TP D vwCl (tysOf c0) H [.ref a0, .int x1, .int x2]) (TQi (fun x H' => H' = H ∧ iv x (-2000000000) (-2000000000)) Y) 0 0 (pA Y) := by
  refine Met.ofW (cc := cX10_follows) (maxL := 4) (ret := (some .int)) (by decide) rfl ?_
  intro p e s m args below meth c s₁ B hml hv
  obtain ⟨rfl, rfl, hK⟩ := hv
  have hx := B.exec
  have hb := B.bytes
  have hr := B.returns
  have hts : ∀ w ∈ wq, w.before _ s = true := fun w h => atoms_spec (ws := wz yX10_follows cX10_follows 4 (some .int)) B.pre w (List.mem_cons_of_mem _ h)
  have hown : s.vm.findClass RX10 = some m.cls := findClass_of_methodNamed B.named
  have hlocks := B.notSynchronized
  obtain ⟨R, hR⟩ : ∃ R : Room, R = ({ frames := 2, cells := 0, slots := 0, locals := 46 } : Room) := ⟨_, rfl⟩
  rw [show (headSpec (wz yX10_follows cX10_follows 4 (some .int)) { frames := 2, cells := 0, slots := 0, locals := 46 }).room = R from hR.symm]
  refine ti_mi hx hb hr hlocks (fun Q ret => ?_)
  have hl := lv_entry [.ref a0, .int x1, .int x2] (n := 4) (Nat.le_of_ble_eq_true rfl)
  rw [lg_entry_eq]
  generalize (lg_sl [.ref a0, .int x1, .int x2] ++ List.replicate (4 - (lg_sl [.ref a0, .int x1, .int x2]).length) Slot.unset).toArray = ls at hl ⊢
  have hl : lv_has ls 4 [(0, .ref a0), (1, .int x1), (2, .int x2)] := hl
  have hS : va_S (pA Y) s.heap s.heap [] := va_S.rf
  refine lv_aload_n hx hb dX10_follows_0 rfl (lv_at hl 0 rfl) ?_
  refine lv_iload_n hx hb dX10_follows_1 rfl (lv_at hl 1 rfl) ?_
  refine ti_calli (va_runV (As := [.int x1]) (rest := []) ⟨hx, hb, hml, hown, hts⟩ (t_X10_isPerson l hT ha0 (iv_w hx1 (by decide))) (cwV 1 hts (good_V kw_486 kw_487 kw_488 kw_5 kw_489) rfl rfl rfl (by decide +kernel) ⟨by rw [hR]; decide, by rw [hR]; decide⟩) (ti_preV hK hT ha0 rfl rfl) rfl rfl hl.1 rfl (lv_room (Nat.le_of_ble_eq_true rfl)) dX10_follows_2 ⟨Nat.zero_le _, Nat.zero_le _⟩) hS (fun _ h => h) (fun v2 H1 locs hB hS _ _ => ?_)
  obtain ⟨hH, hv2⟩ := hB
  rw [hH] at hS ⊢
  have J42 : ∀  (locs : List Loc) (ls : Array Slot), va_S (pA Y) s.heap s.heap locs → lv_has ls 4 [(0, .ref a0), (1, .int x1), (2, .int x2)] → W p l e R s m ([.ref a0, .int x1, .int x2] : List Value).toArray below meth c s.heap locs 0 0 Q (F0 m 42 ls []) := by
    intro  locs ls  hS hl
    refine lv_ldcw (v := (-2000000000)) hx hb hown (hts _ kw_960) dX10_follows_42 ?_
    exact ret _ _ _ _ _ dX10_follows_45 (⟨rfl, iv_w (iv_c (x := (-2000000000 : Int32)) (k := (-2000000000)) (by decide)) (by decide)⟩) hS
  refine lv_if_eq (tgt := 42) hx hb dX10_follows_5 (by decide) (fun c5 => ?_) (fun c5 => ?_)
  · skip
    have kl0 : (0 : Int32).toInt = 0 := by decide
    have f5 := i_eq c5
    exact J42  _ _    hS (lv_sub hl [0, 1, 2] rfl)
  · skip
    have kl0 : (0 : Int32).toInt = 0 := by decide
    have f5 := i_ne c5
    exact (iv_no (show iv v2 1 (-1) from iv_nel hv2 (iv_c (x := (0 : Int32)) (k := 0) (by decide)) c5 (by decide)) (by decide)).elim
set_option maxHeartbeats 4000000 in
set_option maxRecDepth 100000 in
theorem t_X10_plan (l : Launch) {D : va_G} {c0 : Nat → ClassId} {Y : Nat → Option Nat} {H : Heap} (hT : TI D vwCl (tysOf c0) (RT1 false) Y H) {a0 : Nat} (ha0 : Y a0 = some 10) {x1 : Int32} (hx1 : iv x1 (-2147483648) 2147483647) {x2 : Int32} (hx2 : iv x2 (-2147483648) 2147483647) {x3 : Int32} (hx3 : iv x3 (-2147483648) 2147483647) : Met l yX10_plan (wz yX10_plan cX10_plan 10 (some .int)) { frames := 2, cells := 0, slots := 0, locals := 46 } (TP D vwCl (tysOf c0) H [.ref a0, .int x1, .int x2, .int x3]) (TQi (fun x H' => H' = H ∧ iv x (-2000000000) (-2000000000)) Y) 0 0 (pA Y) := by
  refine Met.ofW (cc := cX10_plan) (maxL := 10) (ret := (some .int)) (by decide) rfl ?_
  intro p e s m args below meth c s₁ B hml hv
  obtain ⟨rfl, rfl, hK⟩ := hv
  have hx := B.exec
  have hb := B.bytes
  have hr := B.returns
  have hts : ∀ w ∈ wq, w.before _ s = true := fun w h => atoms_spec (ws := wz yX10_plan cX10_plan 10 (some .int)) B.pre w (List.mem_cons_of_mem _ h)
  have hown : s.vm.findClass RX10 = some m.cls := findClass_of_methodNamed B.named
  have hlocks := B.notSynchronized
  obtain ⟨R, hR⟩ : ∃ R : Room, R = ({ frames := 2, cells := 0, slots := 0, locals := 46 } : Room) := ⟨_, rfl⟩
  rw [show (headSpec (wz yX10_plan cX10_plan 10 (some .int)) { frames := 2, cells := 0, slots := 0, locals := 46 }).room = R from hR.symm]
  refine ti_mi hx hb hr hlocks (fun Q ret => ?_)
  have hl := lv_entry [.ref a0, .int x1, .int x2, .int x3] (n := 10) (Nat.le_of_ble_eq_true rfl)
  rw [lg_entry_eq]
  generalize (lg_sl [.ref a0, .int x1, .int x2, .int x3] ++ List.replicate (10 - (lg_sl [.ref a0, .int x1, .int x2, .int x3]).length) Slot.unset).toArray = ls at hl ⊢
  have hl : lv_has ls 10 [(0, .ref a0), (1, .int x1), (2, .int x2), (3, .int x3)] := hl
  have hS : va_S (pA Y) s.heap s.heap [] := va_S.rf
  refine lv_aload_n hx hb dX10_plan_0 rfl (lv_at hl 0 rfl) ?_
  refine lv_iload_n hx hb dX10_plan_1 rfl (lv_at hl 1 rfl) ?_
  refine ti_calli (va_runV (As := [.int x1]) (rest := []) ⟨hx, hb, hml, hown, hts⟩ (t_X10_isPerson l hT ha0 (iv_w hx1 (by decide))) (cwV 1 hts (good_V kw_486 kw_487 kw_488 kw_5 kw_489) rfl rfl rfl (by decide +kernel) ⟨by rw [hR]; decide, by rw [hR]; decide⟩) (ti_preV hK hT ha0 rfl rfl) rfl rfl hl.1 rfl (lv_room (Nat.le_of_ble_eq_true rfl)) dX10_plan_2 ⟨Nat.zero_le _, Nat.zero_le _⟩) hS (fun _ h => h) (fun v2 H1 locs hB hS _ _ => ?_)
  obtain ⟨hH, hv2⟩ := hB
  rw [hH] at hS ⊢
  have J31 : ∀  (locs : List Loc) (ls : Array Slot), va_S (pA Y) s.heap s.heap locs → lv_has ls 10 [(0, .ref a0), (1, .int x1), (2, .int x2), (3, .int x3)] → W p l e R s m ([.ref a0, .int x1, .int x2, .int x3] : List Value).toArray below meth c s.heap locs 0 0 Q (F0 m 31 ls []) := by
    intro  locs ls  hS hl
    refine lv_ldcw (v := (-2000000000)) hx hb hown (hts _ kw_960) dX10_plan_31 ?_
    exact ret _ _ _ _ _ dX10_plan_34 (⟨rfl, iv_w (iv_c (x := (-2000000000 : Int32)) (k := (-2000000000)) (by decide)) (by decide)⟩) hS
  refine lv_if_eq (tgt := 31) hx hb dX10_plan_5 (by decide) (fun c5 => ?_) (fun c5 => ?_)
  · skip
    have kl0 : (0 : Int32).toInt = 0 := by decide
    have f5 := i_eq c5
    exact J31  _ _    hS (lv_sub hl [0, 1, 2, 3] rfl)
  · skip
    have kl0 : (0 : Int32).toInt = 0 := by decide
    have f5 := i_ne c5
    exact (iv_no (show iv v2 1 (-1) from iv_nel hv2 (iv_c (x := (0 : Int32)) (k := 0) (by decide)) c5 (by decide)) (by decide)).elim
set_option maxHeartbeats 4000000 in
set_option maxRecDepth 100000 in
theorem t_X10_open (l : Launch) {D : va_G} {c0 : Nat → ClassId} {Y : Nat → Option Nat} {H : Heap} (hT : TI D vwCl (tysOf c0) (RT1 false) Y H) {a0 : Nat} (ha0 : Y a0 = some 10) : Met l yX10_open (wz yX10_open cX10_open 3 (some .int)) { frames := 1, cells := 0, slots := 0, locals := 20 } (TP D vwCl (tysOf c0) H [.ref a0]) (TQi (fun x H' => H' = H ∧ iv x (-2) (-2)) Y) 0 0 (pA Y) := by
  refine Met.ofW (cc := cX10_open) (maxL := 3) (ret := (some .int)) (by decide) rfl ?_
  intro p e s m args below meth c s₁ B hml hv
  obtain ⟨rfl, rfl, hK⟩ := hv
  have hx := B.exec
  have hb := B.bytes
  have hr := B.returns
  have hts : ∀ w ∈ wq, w.before _ s = true := fun w h => atoms_spec (ws := wz yX10_open cX10_open 3 (some .int)) B.pre w (List.mem_cons_of_mem _ h)
  have hown : s.vm.findClass RX10 = some m.cls := findClass_of_methodNamed B.named
  have hlocks := B.notSynchronized
  obtain ⟨R, hR⟩ : ∃ R : Room, R = ({ frames := 1, cells := 0, slots := 0, locals := 20 } : Room) := ⟨_, rfl⟩
  rw [show (headSpec (wz yX10_open cX10_open 3 (some .int)) { frames := 1, cells := 0, slots := 0, locals := 20 }).room = R from hR.symm]
  refine ti_mi hx hb hr hlocks (fun Q ret => ?_)
  have hl := lv_entry [.ref a0] (n := 3) (Nat.le_of_ble_eq_true rfl)
  rw [lg_entry_eq]
  generalize (lg_sl [.ref a0] ++ List.replicate (3 - (lg_sl [.ref a0]).length) Slot.unset).toArray = ls at hl ⊢
  have hl : lv_has ls 3 [(0, .ref a0)] := hl
  have hS : va_S (pA Y) s.heap s.heap [] := va_S.rf
  refine lv_aload_n hx hb dX10_open_0 rfl (lv_at hl 0 rfl) ?_
  refine ti_calli (va_runV (As := []) (rest := []) ⟨hx, hb, hml, hown, hts⟩ (t_X10_people l hT ha0) (cwV 0 hts (good_V kw_605 kw_606 kw_607 kw_5 kw_608) rfl rfl rfl (by decide +kernel) ⟨by rw [hR]; decide, by rw [hR]; decide⟩) (ti_preV hK hT ha0 rfl rfl) rfl rfl hl.1 rfl (lv_room (Nat.le_of_ble_eq_true rfl)) dX10_open_1 ⟨Nat.zero_le _, Nat.zero_le _⟩) hS (fun _ h => h) (fun v1 H1 locs hB hS _ _ => ?_)
  obtain ⟨hH, hv1⟩ := hB
  rw [hH] at hS ⊢
  refine lv_if_ne (tgt := 10) hx hb dX10_open_4 (by decide) (fun c4 => ?_) (fun c4 => ?_)
  · skip
    have kl0 : (0 : Int32).toInt = 0 := by decide
    have f4 := i_ne c4
    exact (iv_no (show iv v1 1 (-1) from iv_nel hv1 (iv_c (x := (0 : Int32)) (k := 0) (by decide)) c4 (by decide)) (by decide)).elim
  · skip
    have kl0 : (0 : Int32).toInt = 0 := by decide
    have f4 := i_eq c4
    refine lv_bipush (v := (-2)) hx hb dX10_open_7 (by decide) ?_
    exact ret _ _ _ _ _ dX10_open_9 (⟨rfl, iv_w (iv_c (x := (-2 : Int32)) (k := (-2)) (by decide)) (by decide)⟩) hS
set_option maxHeartbeats 4000000 in
set_option maxRecDepth 100000 in
theorem t_X10_duel (l : Launch) {D : va_G} {c0 : Nat → ClassId} {Y : Nat → Option Nat} {H : Heap} (hT : TI D vwCl (tysOf c0) (RT1 false) Y H) {a0 : Nat} (ha0 : Y a0 = some 10) {x1 : Int32} (hx1 : iv x1 (-2147483648) 2147483647) {x2 : Int32} (hx2 : iv x2 (-2147483648) 2147483647) : Met l yX10_duel (wz yX10_duel cX10_duel 5 (some .int)) { frames := 3, cells := 0, slots := 0, locals := 68 } (TP D vwCl (tysOf c0) H [.ref a0, .int x1, .int x2]) (TQi (fun x H' => H' = H ∧ iv x (-2) (-2)) Y) 0 0 (pA Y) := by
  refine Met.ofW (cc := cX10_duel) (maxL := 5) (ret := (some .int)) (by decide) rfl ?_
  intro p e s m args below meth c s₁ B hml hv
  obtain ⟨rfl, rfl, hK⟩ := hv
  have hx := B.exec
  have hb := B.bytes
  have hr := B.returns
  have hts : ∀ w ∈ wq, w.before _ s = true := fun w h => atoms_spec (ws := wz yX10_duel cX10_duel 5 (some .int)) B.pre w (List.mem_cons_of_mem _ h)
  have hown : s.vm.findClass RX10 = some m.cls := findClass_of_methodNamed B.named
  have hlocks := B.notSynchronized
  obtain ⟨R, hR⟩ : ∃ R : Room, R = ({ frames := 3, cells := 0, slots := 0, locals := 68 } : Room) := ⟨_, rfl⟩
  rw [show (headSpec (wz yX10_duel cX10_duel 5 (some .int)) { frames := 3, cells := 0, slots := 0, locals := 68 }).room = R from hR.symm]
  refine ti_mi hx hb hr hlocks (fun Q ret => ?_)
  have hl := lv_entry [.ref a0, .int x1, .int x2] (n := 5) (Nat.le_of_ble_eq_true rfl)
  rw [lg_entry_eq]
  generalize (lg_sl [.ref a0, .int x1, .int x2] ++ List.replicate (5 - (lg_sl [.ref a0, .int x1, .int x2]).length) Slot.unset).toArray = ls at hl ⊢
  have hl : lv_has ls 5 [(0, .ref a0), (1, .int x1), (2, .int x2)] := hl
  have hS : va_S (pA Y) s.heap s.heap [] := va_S.rf
  refine lv_aload_n hx hb dX10_duel_0 rfl (lv_at hl 0 rfl) ?_
  refine lv_iload_n hx hb dX10_duel_1 rfl (lv_at hl 1 rfl) ?_
  refine lv_iload_n hx hb dX10_duel_2 rfl (lv_at hl 2 rfl) ?_
  refine ti_calli (va_runV (As := [.int x1, .int x2]) (rest := []) ⟨hx, hb, hml, hown, hts⟩ (t_X10_areTwo l hT ha0 (iv_w hx1 (by decide)) (iv_w hx2 (by decide))) (cwV 2 hts (good_V kw_545 kw_546 kw_547 kw_5 kw_548) rfl rfl rfl (by decide +kernel) ⟨by rw [hR]; decide, by rw [hR]; decide⟩) (ti_preV hK hT ha0 rfl rfl) rfl rfl hl.1 rfl (lv_room (Nat.le_of_ble_eq_true rfl)) dX10_duel_3 ⟨Nat.zero_le _, Nat.zero_le _⟩) hS (fun _ h => h) (fun v3 H1 locs hB hS _ _ => ?_)
  obtain ⟨hH, hv3⟩ := hB
  rw [hH] at hS ⊢
  refine lv_if_ne (tgt := 12) hx hb dX10_duel_6 (by decide) (fun c6 => ?_) (fun c6 => ?_)
  · skip
    have kl0 : (0 : Int32).toInt = 0 := by decide
    have f6 := i_ne c6
    exact (iv_no (show iv v3 1 (-1) from iv_nel hv3 (iv_c (x := (0 : Int32)) (k := 0) (by decide)) c6 (by decide)) (by decide)).elim
  · skip
    have kl0 : (0 : Int32).toInt = 0 := by decide
    have f6 := i_eq c6
    refine lv_bipush (v := (-2)) hx hb dX10_duel_9 (by decide) ?_
    exact ret _ _ _ _ _ dX10_duel_11 (⟨rfl, iv_w (iv_c (x := (-2 : Int32)) (k := (-2)) (by decide)) (by decide)⟩) hS
set_option maxHeartbeats 4000000 in
set_option maxRecDepth 100000 in
theorem t_X10_mixed (l : Launch) {D : va_G} {c0 : Nat → ClassId} {Y : Nat → Option Nat} {H : Heap} (hT : TI D vwCl (tysOf c0) (RT1 false) Y H) {a0 : Nat} (ha0 : Y a0 = some 10) {x1 : Int32} (hx1 : iv x1 (-2147483648) 2147483647) {x2 : Int32} (hx2 : iv x2 (-2147483648) 2147483647) : Met l yX10_mixed (wz yX10_mixed cX10_mixed 7 (some .int)) { frames := 3, cells := 0, slots := 0, locals := 68 } (TP D vwCl (tysOf c0) H [.ref a0, .int x1, .int x2]) (TQi (fun x H' => H' = H ∧ iv x (-2) (-2)) Y) 0 0 (pA Y) := by
  refine Met.ofW (cc := cX10_mixed) (maxL := 7) (ret := (some .int)) (by decide) rfl ?_
  intro p e s m args below meth c s₁ B hml hv
  obtain ⟨rfl, rfl, hK⟩ := hv
  have hx := B.exec
  have hb := B.bytes
  have hr := B.returns
  have hts : ∀ w ∈ wq, w.before _ s = true := fun w h => atoms_spec (ws := wz yX10_mixed cX10_mixed 7 (some .int)) B.pre w (List.mem_cons_of_mem _ h)
  have hown : s.vm.findClass RX10 = some m.cls := findClass_of_methodNamed B.named
  have hlocks := B.notSynchronized
  obtain ⟨R, hR⟩ : ∃ R : Room, R = ({ frames := 3, cells := 0, slots := 0, locals := 68 } : Room) := ⟨_, rfl⟩
  rw [show (headSpec (wz yX10_mixed cX10_mixed 7 (some .int)) { frames := 3, cells := 0, slots := 0, locals := 68 }).room = R from hR.symm]
  refine ti_mi hx hb hr hlocks (fun Q ret => ?_)
  have hl := lv_entry [.ref a0, .int x1, .int x2] (n := 7) (Nat.le_of_ble_eq_true rfl)
  rw [lg_entry_eq]
  generalize (lg_sl [.ref a0, .int x1, .int x2] ++ List.replicate (7 - (lg_sl [.ref a0, .int x1, .int x2]).length) Slot.unset).toArray = ls at hl ⊢
  have hl : lv_has ls 7 [(0, .ref a0), (1, .int x1), (2, .int x2)] := hl
  have hS : va_S (pA Y) s.heap s.heap [] := va_S.rf
  refine lv_aload_n hx hb dX10_mixed_0 rfl (lv_at hl 0 rfl) ?_
  refine lv_iload_n hx hb dX10_mixed_1 rfl (lv_at hl 1 rfl) ?_
  refine lv_iload_n hx hb dX10_mixed_2 rfl (lv_at hl 2 rfl) ?_
  refine ti_calli (va_runV (As := [.int x1, .int x2]) (rest := []) ⟨hx, hb, hml, hown, hts⟩ (t_X10_areTwo l hT ha0 (iv_w hx1 (by decide)) (iv_w hx2 (by decide))) (cwV 2 hts (good_V kw_545 kw_546 kw_547 kw_5 kw_548) rfl rfl rfl (by decide +kernel) ⟨by rw [hR]; decide, by rw [hR]; decide⟩) (ti_preV hK hT ha0 rfl rfl) rfl rfl hl.1 rfl (lv_room (Nat.le_of_ble_eq_true rfl)) dX10_mixed_3 ⟨Nat.zero_le _, Nat.zero_le _⟩) hS (fun _ h => h) (fun v3 H1 locs hB hS _ _ => ?_)
  obtain ⟨hH, hv3⟩ := hB
  rw [hH] at hS ⊢
  refine lv_if_ne (tgt := 12) hx hb dX10_mixed_6 (by decide) (fun c6 => ?_) (fun c6 => ?_)
  · skip
    have kl0 : (0 : Int32).toInt = 0 := by decide
    have f6 := i_ne c6
    exact (iv_no (show iv v3 1 (-1) from iv_nel hv3 (iv_c (x := (0 : Int32)) (k := 0) (by decide)) c6 (by decide)) (by decide)).elim
  · skip
    have kl0 : (0 : Int32).toInt = 0 := by decide
    have f6 := i_eq c6
    refine lv_bipush (v := (-2)) hx hb dX10_mixed_9 (by decide) ?_
    exact ret _ _ _ _ _ dX10_mixed_11 (⟨rfl, iv_w (iv_c (x := (-2 : Int32)) (k := (-2)) (by decide)) (by decide)⟩) hS
set_option maxHeartbeats 4000000 in
set_option maxRecDepth 100000 in
theorem t_X10_seed (l : Launch) {D : va_G} {c0 : Nat → ClassId} {Y : Nat → Option Nat} {H : Heap} (hT : TI D vwCl (tysOf c0) (RT1 false) Y H) {a0 : Nat} (ha0 : Y a0 = some 10) {x1 : Int32} (hx1 : iv x1 (-2147483648) 2147483647) : Met l yX10_seed (wz yX10_seed cX10_seed 2 (some .int)) { frames := 1, cells := 0, slots := 0, locals := 25 } (TP D vwCl (tysOf c0) H [.ref a0, .int x1]) (TQi (fun x H' => TI D vwCl (tysOf c0) (RT1 false) Y H' ∧ (((x1.toInt < 0 ∨ 2000000000 < x1.toInt) ∧ x.toInt = -2) ∨ (0 ≤ x1.toInt ∧ x1.toInt ≤ 2000000000 ∧ x.toInt = 0))) Y) 0 0 (pA Y) := by
  refine Met.ofW (cc := cX10_seed) (maxL := 2) (ret := (some .int)) (by decide) rfl ?_
  intro p e s m args below meth c s₁ B hml hv
  obtain ⟨rfl, rfl, hK⟩ := hv
  have hx := B.exec
  have hb := B.bytes
  have hr := B.returns
  have hts : ∀ w ∈ wq, w.before _ s = true := fun w h => atoms_spec (ws := wz yX10_seed cX10_seed 2 (some .int)) B.pre w (List.mem_cons_of_mem _ h)
  have hown : s.vm.findClass RX10 = some m.cls := findClass_of_methodNamed B.named
  have hlocks := B.notSynchronized
  obtain ⟨R, hR⟩ : ∃ R : Room, R = ({ frames := 1, cells := 0, slots := 0, locals := 25 } : Room) := ⟨_, rfl⟩
  rw [show (headSpec (wz yX10_seed cX10_seed 2 (some .int)) { frames := 1, cells := 0, slots := 0, locals := 25 }).room = R from hR.symm]
  refine ti_mi hx hb hr hlocks (fun Q ret => ?_)
  have hl := lv_entry [.ref a0, .int x1] (n := 2) (Nat.le_of_ble_eq_true rfl)
  rw [lg_entry_eq]
  generalize (lg_sl [.ref a0, .int x1] ++ List.replicate (2 - (lg_sl [.ref a0, .int x1]).length) Slot.unset).toArray = ls at hl ⊢
  have hl : lv_has ls 2 [(0, .ref a0), (1, .int x1)] := hl
  refine ti_gen (P := fun H => TI D vwCl (tysOf c0) (RT1 false) Y H) (Y := Y) hT (fun H locs hT hS => ?_)
  refine lv_iload_n hx hb dX10_seed_0 rfl (lv_at hl 1 rfl) ?_
  refine lv_i2l hx hb dX10_seed_1 rfl ?_
  refine lv_topl (fun v1 e1 => ?_)
  have hv1 : jv v1 (-2147483648) 2147483647 := by rw [e1]; exact jv_i hx1
  have t1 : v1.toInt = x1.toInt := by rw [e1]; exact jv_e _
  refine lv_lconst (v := 0) hx hb dX10_seed_2 (by decide) ?_
  have kj0 : (0 : Int64).toInt = 0 := by decide
  refine lv_ldc2 (v := 2000000000) hx hb hown (hts _ kw_1499) dX10_seed_3 ?_
  have kj2000000000 : (2000000000 : Int64).toInt = 2000000000 := by decide
  refine ti_calli (va_runS (As := [.long v1, .long (0 : Int64), .long (2000000000 : Int64)]) (rest := []) ⟨hx, hb, hml, hown, hts⟩ (t_X10_in l hT (jv_w hv1 (by decide)) (jv_w (jv_c (x := (0 : Int64)) (k := 0) (by decide)) (by decide)) (jv_w (jv_c (x := (2000000000 : Int64)) (k := 2000000000) (by decide)) (by decide))) (cwS 3 hts (good_S kw_181 kw_182 kw_5 kw_183) rfl rfl rfl (by decide +kernel) ⟨by rw [hR]; decide, by rw [hR]; decide⟩) (ti_preS hK) rfl rfl hl.1 rfl (lv_room (Nat.le_of_ble_eq_true rfl)) dX10_seed_6 ⟨Nat.zero_le _, Nat.zero_le _⟩) hS (fun _ h => h) (fun v6 H1 locs hB hS _ _ => ?_)
  obtain ⟨hH, hv6, hp6⟩ := hB
  rw [hH] at hS ⊢
  refine lv_if_ne (tgt := 15) hx hb dX10_seed_9 (by decide) (fun c9 => ?_) (fun c9 => ?_)
  · skip
    have kl0 : (0 : Int32).toInt = 0 := by decide
    have f9 := i_ne c9
    have hv6_9l : iv v6 1 1 := iv_nel hv6 (iv_c (x := (0 : Int32)) (k := 0) (by decide)) c9 (by decide)
    have hv1_9p : jv v1 0 2000000000 := by have b0a := (hv1).1; have b0b := (hv1).2; have b1a := ((jv_c (x := (0 : Int64)) (k := 0) (by decide))).1; have b1b := ((jv_c (x := (0 : Int64)) (k := 0) (by decide))).2; have b2a := ((jv_c (x := (2000000000 : Int64)) (k := 2000000000) (by decide))).1; have b2b := ((jv_c (x := (2000000000 : Int64)) (k := 2000000000) (by decide))).2; exact ⟨by omega, by omega⟩
    have hx1_9p : iv x1 0 2000000000 := by have := t1; have b0a := (hv1_9p).1; have b0b := (hv1_9p).2; have b1a := (hx1).1; have b1b := (hx1).2; exact ⟨by omega, by omega⟩
    refine lv_aload_n hx hb dX10_seed_15 rfl (lv_at hl 0 rfl) ?_
    refine lv_iload_n hx hb dX10_seed_16 rfl (lv_at hl 1 rfl) ?_
    refine lv_i2l hx hb dX10_seed_17 rfl ?_
    refine lv_topl (fun v17 e17 => ?_)
    have hv17 : jv v17 0 2000000000 := by rw [e17]; exact jv_i hx1_9p
    have t17 : v17.toInt = x1.toInt := by rw [e17]; exact jv_e _
    refine ti_put (ty := .long) hx hb hts inlX10 tyX10 tyX10_ok nmX10 hown hK hT hS ha0 rfl rfl 16 (by decide) (hts _ kw_382) (fun _ h9 => h9) rfl rfl (by decide +kernel) rfl rfl ⟨v17, rfl⟩ dX10_seed_18 (fun H locs hT hS => ?_)
    refine lv_iconst (v := 0) hx hb dX10_seed_21 (by decide) ?_
    exact ret _ _ _ _ _ dX10_seed_22 (⟨hT, by have b0a := (hx1_9p).1; have b0b := (hx1_9p).2; have b1a := (hv1_9p).1; have b1b := (hv1_9p).2; have b2a := (hv6_9l).1; have b2b := (hv6_9l).2; have b3a := (hv17).1; have b3b := (hv17).2; omega⟩) hS
  · skip
    have kl0 : (0 : Int32).toInt = 0 := by decide
    have f9 := i_eq c9
    have hv6_9l : iv v6 0 0 := iv_eql hv6 (iv_c (x := (0 : Int32)) (k := 0) (by decide)) c9 (by decide)
    refine lv_bipush (v := (-2)) hx hb dX10_seed_12 (by decide) ?_
    have klm2 : (-2 : Int32).toInt = (-2) := by decide
    exact ret _ _ _ _ _ dX10_seed_14 (⟨hT, by have b0a := (hx1).1; have b0b := (hx1).2; have b1a := (hv1).1; have b1b := (hv1).2; have b2a := (hv6_9l).1; have b2b := (hv6_9l).2; omega⟩) hS
set_option maxHeartbeats 4000000 in
set_option maxRecDepth 100000 in
theorem t_X10_count (l : Launch) {D : va_G} {c0 : Nat → ClassId} {Y : Nat → Option Nat} {H : Heap} (hT : TI D vwCl (tysOf c0) (RT1 false) Y H) {a0 : Nat} (ha0 : Y a0 = some 10) {x1 : Int32} (hx1 : iv x1 (-2147483648) 2147483647) : Met l yX10_count (wz yX10_count cX10_count 4 (some .int)) { frames := 0, cells := 0, slots := 0, locals := 0 } (TP D vwCl (tysOf c0) H [.ref a0, .int x1]) (TQi (fun x H' => H' = H ∧ ((x1.toInt = 8 ∧ x.toInt = 2) ∨ (¬ x1.toInt = 8 ∧ 0 ≤ x1.toInt ∧ x1.toInt ≤ 12 ∧ x.toInt = 0) ∨ ((x1.toInt < 0 ∨ 12 < x1.toInt) ∧ x.toInt = -1))) Y) 0 0 (pA Y) := by
  refine Met.ofW (cc := cX10_count) (maxL := 4) (ret := (some .int)) (by decide) rfl ?_
  intro p e s m args below meth c s₁ B hml hv
  obtain ⟨rfl, rfl, hK⟩ := hv
  have hx := B.exec
  have hb := B.bytes
  have hr := B.returns
  have hts : ∀ w ∈ wq, w.before _ s = true := fun w h => atoms_spec (ws := wz yX10_count cX10_count 4 (some .int)) B.pre w (List.mem_cons_of_mem _ h)
  have hown : s.vm.findClass RX10 = some m.cls := findClass_of_methodNamed B.named
  have hlocks := B.notSynchronized
  obtain ⟨R, hR⟩ : ∃ R : Room, R = ({ frames := 0, cells := 0, slots := 0, locals := 0 } : Room) := ⟨_, rfl⟩
  rw [show (headSpec (wz yX10_count cX10_count 4 (some .int)) { frames := 0, cells := 0, slots := 0, locals := 0 }).room = R from hR.symm]
  refine ti_mi hx hb hr hlocks (fun Q ret => ?_)
  have hl := lv_entry [.ref a0, .int x1] (n := 4) (Nat.le_of_ble_eq_true rfl)
  rw [lg_entry_eq]
  generalize (lg_sl [.ref a0, .int x1] ++ List.replicate (4 - (lg_sl [.ref a0, .int x1]).length) Slot.unset).toArray = ls at hl ⊢
  have hl : lv_has ls 4 [(0, .ref a0), (1, .int x1)] := hl
  have hS : va_S (pA Y) s.heap s.heap [] := va_S.rf
  refine lv_iconst (v := 0) hx hb dX10_count_0 (by decide) ?_
  refine lv_istore_n (lv' := [(2, .int (0 : Int32)), (0, .ref a0), (1, .int x1)]) hx hb dX10_count_1 rfl hl (by decide) rfl (fun ls hl => ?_)
  refine lv_iload_n hx hb dX10_count_2 rfl (lv_at hl 2 rfl) ?_
  by_cases c3_0 : x1.toInt = 0
  · skip
    refine lv_tableIn (off := 65) (tgt := 68) hx hb dX10_count_3 (by omega) (by omega) (by rw [c3_0]; rfl) (by decide) ?_
    have hx1_3 : iv x1 0 0 := iv_c c3_0
    refine lv_aload_n hx hb dX10_count_68 rfl (lv_at hl 1 rfl) ?_
    refine ti_getr hx hb hts inlX10 hown hK hT ha0 rfl rfl 1 (by decide) (hts _ kw_130) (fun _ h9 => h9) rfl dX10_count_69 (fun v69 hv69 => ?_)
    refine lv_iconst (v := 1) hx hb dX10_count_72 (by decide) ?_
    refine ti_iald (lo := 0) (hi := 0) hx hb (aT0 hK) hT hv69 rfl (iv_c (x := (1 : Int32)) (k := 1) (by decide)) (by decide) (one_j 1 rfl rfl (by decide) (by decide)) dX10_count_73 (fun v73 hv73 => ?_)
    exact ret _ _ _ _ _ dX10_count_74 (⟨rfl, by have b0a := (hx1_3).1; have b0b := (hx1_3).2; have b1a := (hv73).1; have b1b := (hv73).2; omega⟩) hS
  by_cases c3_1 : x1.toInt = 1
  · skip
    refine lv_tableIn (off := 72) (tgt := 75) hx hb dX10_count_3 (by omega) (by omega) (by rw [c3_1]; rfl) (by decide) ?_
    have hx1_3 : iv x1 1 1 := iv_c c3_1
    refine lv_aload_n hx hb dX10_count_75 rfl (lv_at hl 1 rfl) ?_
    refine ti_getr hx hb hts inlX10 hown hK hT ha0 rfl rfl 1 (by decide) (hts _ kw_130) (fun _ h9 => h9) rfl dX10_count_76 (fun v76 hv76 => ?_)
    refine lv_bipush (v := 7) hx hb dX10_count_79 (by decide) ?_
    refine ti_iald (lo := 0) (hi := 0) hx hb (aT0 hK) hT hv76 rfl (iv_c (x := (7 : Int32)) (k := 7) (by decide)) (by decide) (one_j 7 rfl rfl (by decide) (by decide)) dX10_count_81 (fun v81 hv81 => ?_)
    exact ret _ _ _ _ _ dX10_count_82 (⟨rfl, by have b0a := (hx1_3).1; have b0b := (hx1_3).2; have b1a := (hv81).1; have b1b := (hv81).2; omega⟩) hS
  by_cases c3_2 : x1.toInt = 2
  · skip
    refine lv_tableIn (off := 80) (tgt := 83) hx hb dX10_count_3 (by omega) (by omega) (by rw [c3_2]; rfl) (by decide) ?_
    have hx1_3 : iv x1 2 2 := iv_c c3_2
    refine lv_aload_n hx hb dX10_count_83 rfl (lv_at hl 1 rfl) ?_
    refine ti_getr hx hb hts inlX10 hown hK hT ha0 rfl rfl 1 (by decide) (hts _ kw_130) (fun _ h9 => h9) rfl dX10_count_84 (fun v84 hv84 => ?_)
    refine lv_iconst (v := 0) hx hb dX10_count_87 (by decide) ?_
    refine ti_iald (lo := 0) (hi := 0) hx hb (aT0 hK) hT hv84 rfl (iv_c (x := (0 : Int32)) (k := 0) (by decide)) (by decide) (one_j 0 rfl rfl (by decide) (by decide)) dX10_count_88 (fun v88 hv88 => ?_)
    exact ret _ _ _ _ _ dX10_count_89 (⟨rfl, by have b0a := (hx1_3).1; have b0b := (hx1_3).2; have b1a := (hv88).1; have b1b := (hv88).2; omega⟩) hS
  by_cases c3_3 : x1.toInt = 3
  · skip
    refine lv_tableIn (off := 87) (tgt := 90) hx hb dX10_count_3 (by omega) (by omega) (by rw [c3_3]; rfl) (by decide) ?_
    have hx1_3 : iv x1 3 3 := iv_c c3_3
    refine lv_aload_n hx hb dX10_count_90 rfl (lv_at hl 1 rfl) ?_
    refine ti_geti hx hb hts inlX10 hown hK hT ha0 rfl rfl 6 (by decide) (hts _ kw_172) (fun _ h9 => h9) rfl dX10_count_91 (fun v91 hv91 => ?_)
    exact ret _ _ _ _ _ dX10_count_94 (⟨rfl, by have b0a := (hx1_3).1; have b0b := (hx1_3).2; have b1a := (hv91).1; have b1b := (hv91).2; omega⟩) hS
  by_cases c3_4 : x1.toInt = 4
  · skip
    refine lv_tableIn (off := 92) (tgt := 95) hx hb dX10_count_3 (by omega) (by omega) (by rw [c3_4]; rfl) (by decide) ?_
    have hx1_3 : iv x1 4 4 := iv_c c3_4
    refine lv_aload_n hx hb dX10_count_95 rfl (lv_at hl 1 rfl) ?_
    refine ti_getr hx hb hts inlX10 hown hK hT ha0 rfl rfl 1 (by decide) (hts _ kw_130) (fun _ h9 => h9) rfl dX10_count_96 (fun v96 hv96 => ?_)
    refine lv_bipush (v := 10) hx hb dX10_count_99 (by decide) ?_
    refine ti_iald (lo := 0) (hi := 0) hx hb (aT0 hK) hT hv96 rfl (iv_c (x := (10 : Int32)) (k := 10) (by decide)) (by decide) (one_j 10 rfl rfl (by decide) (by decide)) dX10_count_101 (fun v101 hv101 => ?_)
    exact ret _ _ _ _ _ dX10_count_102 (⟨rfl, by have b0a := (hx1_3).1; have b0b := (hx1_3).2; have b1a := (hv101).1; have b1b := (hv101).2; omega⟩) hS
  by_cases c3_5 : x1.toInt = 5
  · skip
    refine lv_tableIn (off := 100) (tgt := 103) hx hb dX10_count_3 (by omega) (by omega) (by rw [c3_5]; rfl) (by decide) ?_
    have hx1_3 : iv x1 5 5 := iv_c c3_5
    refine lv_aload_n hx hb dX10_count_103 rfl (lv_at hl 1 rfl) ?_
    refine ti_getr hx hb hts inlX10 hown hK hT ha0 rfl rfl 1 (by decide) (hts _ kw_130) (fun _ h9 => h9) rfl dX10_count_104 (fun v104 hv104 => ?_)
    refine lv_bipush (v := 9) hx hb dX10_count_107 (by decide) ?_
    refine ti_iald (lo := 0) (hi := 0) hx hb (aT0 hK) hT hv104 rfl (iv_c (x := (9 : Int32)) (k := 9) (by decide)) (by decide) (one_j 9 rfl rfl (by decide) (by decide)) dX10_count_109 (fun v109 hv109 => ?_)
    exact ret _ _ _ _ _ dX10_count_110 (⟨rfl, by have b0a := (hx1_3).1; have b0b := (hx1_3).2; have b1a := (hv109).1; have b1b := (hv109).2; omega⟩) hS
  by_cases c3_6 : x1.toInt = 6
  · skip
    refine lv_tableIn (off := 108) (tgt := 111) hx hb dX10_count_3 (by omega) (by omega) (by rw [c3_6]; rfl) (by decide) ?_
    have hx1_3 : iv x1 6 6 := iv_c c3_6
    refine lv_aload_n hx hb dX10_count_111 rfl (lv_at hl 1 rfl) ?_
    refine ti_getr hx hb hts inlX10 hown hK hT ha0 rfl rfl 1 (by decide) (hts _ kw_130) (fun _ h9 => h9) rfl dX10_count_112 (fun v112 hv112 => ?_)
    refine lv_bipush (v := 11) hx hb dX10_count_115 (by decide) ?_
    refine ti_iald (lo := 0) (hi := 0) hx hb (aT0 hK) hT hv112 rfl (iv_c (x := (11 : Int32)) (k := 11) (by decide)) (by decide) (one_j 11 rfl rfl (by decide) (by decide)) dX10_count_117 (fun v117 hv117 => ?_)
    exact ret _ _ _ _ _ dX10_count_118 (⟨rfl, by have b0a := (hx1_3).1; have b0b := (hx1_3).2; have b1a := (hv117).1; have b1b := (hv117).2; omega⟩) hS
  by_cases c3_7 : x1.toInt = 7
  · skip
    refine lv_tableIn (off := 116) (tgt := 119) hx hb dX10_count_3 (by omega) (by omega) (by rw [c3_7]; rfl) (by decide) ?_
    have hx1_3 : iv x1 7 7 := iv_c c3_7
    refine lv_aload_n hx hb dX10_count_119 rfl (lv_at hl 1 rfl) ?_
    refine ti_getr hx hb hts inlX10 hown hK hT ha0 rfl rfl 1 (by decide) (hts _ kw_130) (fun _ h9 => h9) rfl dX10_count_120 (fun v120 hv120 => ?_)
    refine lv_iconst (v := 2) hx hb dX10_count_123 (by decide) ?_
    refine ti_iald (lo := 0) (hi := 0) hx hb (aT0 hK) hT hv120 rfl (iv_c (x := (2 : Int32)) (k := 2) (by decide)) (by decide) (one_j 2 rfl rfl (by decide) (by decide)) dX10_count_124 (fun v124 hv124 => ?_)
    exact ret _ _ _ _ _ dX10_count_125 (⟨rfl, by have b0a := (hx1_3).1; have b0b := (hx1_3).2; have b1a := (hv124).1; have b1b := (hv124).2; omega⟩) hS
  by_cases c3_8 : x1.toInt = 8
  · skip
    refine lv_tableIn (off := 123) (tgt := 126) hx hb dX10_count_3 (by omega) (by omega) (by rw [c3_8]; rfl) (by decide) ?_
    have hx1_3 : iv x1 8 8 := iv_c c3_8
    refine lv_aload_n hx hb dX10_count_126 rfl (lv_at hl 1 rfl) ?_
    refine ti_getr hx hb hts inlX10 hown hK hT ha0 rfl rfl 1 (by decide) (hts _ kw_130) (fun _ h9 => h9) rfl dX10_count_127 (fun v127 hv127 => ?_)
    refine lv_iconst (v := 3) hx hb dX10_count_130 (by decide) ?_
    refine ti_iald (lo := 2) (hi := 2) hx hb (aT0 hK) hT hv127 rfl (iv_c (x := (3 : Int32)) (k := 3) (by decide)) (by decide) (one_j 3 rfl rfl (by decide) (by decide)) dX10_count_131 (fun v131 hv131 => ?_)
    exact ret _ _ _ _ _ dX10_count_132 (⟨rfl, by have b0a := (hx1_3).1; have b0b := (hx1_3).2; have b1a := (hv131).1; have b1b := (hv131).2; omega⟩) hS
  by_cases c3_9 : x1.toInt = 9
  · skip
    refine lv_tableIn (off := 130) (tgt := 133) hx hb dX10_count_3 (by omega) (by omega) (by rw [c3_9]; rfl) (by decide) ?_
    have hx1_3 : iv x1 9 9 := iv_c c3_9
    refine lv_aload_n hx hb dX10_count_133 rfl (lv_at hl 1 rfl) ?_
    refine ti_getr hx hb hts inlX10 hown hK hT ha0 rfl rfl 1 (by decide) (hts _ kw_130) (fun _ h9 => h9) rfl dX10_count_134 (fun v134 hv134 => ?_)
    refine lv_iconst (v := 4) hx hb dX10_count_137 (by decide) ?_
    refine ti_iald (lo := 0) (hi := 0) hx hb (aT0 hK) hT hv134 rfl (iv_c (x := (4 : Int32)) (k := 4) (by decide)) (by decide) (one_j 4 rfl rfl (by decide) (by decide)) dX10_count_138 (fun v138 hv138 => ?_)
    exact ret _ _ _ _ _ dX10_count_139 (⟨rfl, by have b0a := (hx1_3).1; have b0b := (hx1_3).2; have b1a := (hv138).1; have b1b := (hv138).2; omega⟩) hS
  by_cases c3_10 : x1.toInt = 10
  · skip
    refine lv_tableIn (off := 137) (tgt := 140) hx hb dX10_count_3 (by omega) (by omega) (by rw [c3_10]; rfl) (by decide) ?_
    have hx1_3 : iv x1 10 10 := iv_c c3_10
    refine lv_aload_n hx hb dX10_count_140 rfl (lv_at hl 1 rfl) ?_
    refine ti_getr hx hb hts inlX10 hown hK hT ha0 rfl rfl 1 (by decide) (hts _ kw_130) (fun _ h9 => h9) rfl dX10_count_141 (fun v141 hv141 => ?_)
    refine lv_iconst (v := 5) hx hb dX10_count_144 (by decide) ?_
    refine ti_iald (lo := 0) (hi := 0) hx hb (aT0 hK) hT hv141 rfl (iv_c (x := (5 : Int32)) (k := 5) (by decide)) (by decide) (one_j 5 rfl rfl (by decide) (by decide)) dX10_count_145 (fun v145 hv145 => ?_)
    exact ret _ _ _ _ _ dX10_count_146 (⟨rfl, by have b0a := (hx1_3).1; have b0b := (hx1_3).2; have b1a := (hv145).1; have b1b := (hv145).2; omega⟩) hS
  by_cases c3_11 : x1.toInt = 11
  · skip
    refine lv_tableIn (off := 144) (tgt := 147) hx hb dX10_count_3 (by omega) (by omega) (by rw [c3_11]; rfl) (by decide) ?_
    have hx1_3 : iv x1 11 11 := iv_c c3_11
    refine lv_aload_n hx hb dX10_count_147 rfl (lv_at hl 1 rfl) ?_
    refine ti_getr hx hb hts inlX10 hown hK hT ha0 rfl rfl 1 (by decide) (hts _ kw_130) (fun _ h9 => h9) rfl dX10_count_148 (fun v148 hv148 => ?_)
    refine lv_bipush (v := 6) hx hb dX10_count_151 (by decide) ?_
    refine ti_iald (lo := 0) (hi := 0) hx hb (aT0 hK) hT hv148 rfl (iv_c (x := (6 : Int32)) (k := 6) (by decide)) (by decide) (one_j 6 rfl rfl (by decide) (by decide)) dX10_count_153 (fun v153 hv153 => ?_)
    exact ret _ _ _ _ _ dX10_count_154 (⟨rfl, by have b0a := (hx1_3).1; have b0b := (hx1_3).2; have b1a := (hv153).1; have b1b := (hv153).2; omega⟩) hS
  by_cases c3_12 : x1.toInt = 12
  · skip
    refine lv_tableIn (off := 152) (tgt := 155) hx hb dX10_count_3 (by omega) (by omega) (by rw [c3_12]; rfl) (by decide) ?_
    have hx1_3 : iv x1 12 12 := iv_c c3_12
    refine lv_iconst (v := 0) hx hb dX10_count_155 (by decide) ?_
    have J157 : ∀ (n : Nat) (j157_L2 : Int32) (j157_L3 : Int32) (locs : List Loc) (ls : Array Slot), (4 - j157_L3.toInt).toNat < n → iv j157_L2 0 0 → iv j157_L3 0 4 → va_S (pA Y) s.heap s.heap locs → lv_has ls 4 [(0, .ref a0), (1, .int x1), (2, .int j157_L2), (3, .int j157_L3)] → W p l e R s m ([.ref a0, .int x1] : List Value).toArray below meth c s.heap locs 0 0 Q (F0 m 157 ls []) := by
      intro n
      induction n with
      | zero => intro j157_L2 j157_L3 locs ls hm; exact absurd hm (Nat.not_lt_zero _)
      | succ n ih =>
        intro j157_L2 j157_L3 locs ls hm hj157_L2 hj157_L3 hS hl
        refine lv_iload_n hx hb dX10_count_157 rfl (lv_at hl 3 rfl) ?_
        refine lv_iconst (v := 4) hx hb dX10_count_158 (by decide) ?_
        refine lv_icmp_ge (tgt := 186) hx hb dX10_count_159 (by decide) (fun c159 => ?_) (fun c159 => ?_)
        · skip
          have kl4 : (4 : Int32).toInt = 4 := by decide
          have f159 := i_le c159
          have hj157_L3_159r : iv j157_L3 4 4 := iv_ler (iv_c (x := (4 : Int32)) (k := 4) (by decide)) hj157_L3 c159 (by decide)
          refine lv_iload_n hx hb dX10_count_186 rfl (lv_at hl 2 rfl) ?_
          exact ret _ _ _ _ _ dX10_count_187 (⟨rfl, by have b0a := (hx1_3).1; have b0b := (hx1_3).2; have b1a := (hj157_L2).1; have b1b := (hj157_L2).2; have b2a := (hj157_L3_159r).1; have b2b := (hj157_L3_159r).2; omega⟩) hS
        · skip
          have kl4 : (4 : Int32).toInt = 4 := by decide
          have f159 := i_nle c159
          have hj157_L3_159l : iv j157_L3 0 3 := iv_ltl hj157_L3 (iv_c (x := (4 : Int32)) (k := 4) (by decide)) (Int32.not_le.mp c159) (by decide)
          refine lv_iload_n hx hb dX10_count_162 rfl (lv_at hl 2 rfl) ?_
          refine lv_aload_n hx hb dX10_count_163 rfl (lv_at hl 0 rfl) ?_
          refine ti_getr hx hb hts inlX10 hown hK hT ha0 rfl rfl 34 (by decide) (hts _ kw_151) (fun _ h9 => h9) rfl dX10_count_164 (fun v164 hv164 => ?_)
          refine lv_iload_n hx hb dX10_count_167 rfl (lv_at hl 3 rfl) ?_
          refine ti_iald (lo := (-1)) (hi := (-1)) hx hb (aT0 hK) hT hv164 rfl hj157_L3_159l (by decide) (fun _ _ _ => ⟨_, _, rfl, by decide, by decide⟩) dX10_count_168 (fun v168 hv168 => ?_)
          refine lv_iconst (v := (-1)) hx hb dX10_count_169 (by decide) ?_
          have J178 : ∀  (locs : List Loc) (ls : Array Slot), va_S (pA Y) s.heap s.heap locs → lv_has ls 4 [(0, .ref a0), (1, .int x1), (2, .int j157_L2), (3, .int j157_L3)] → W p l e R s m ([.ref a0, .int x1] : List Value).toArray below meth c s.heap locs 0 0 Q (F0 m 178 ls [.int (0 : Int32), .int j157_L2]) := by
            intro  locs ls  hS hl
            refine lv_iadd hx hb dX10_count_178 ?_
            refine lv_topi (fun v178 e178 => ?_)
            have hv178 : iv v178 0 0 := by rw [e178]; exact iv_w (iv_add hj157_L2 (iv_c (x := (0 : Int32)) (k := 0) (by decide)) (by decide)) (by decide)
            have s178 : v178.toInt = j157_L2.toInt + 0 := by rw [e178, iv_addE hj157_L2 (iv_c (x := (0 : Int32)) (k := 0) (by decide)) (by decide)]; rfl
            refine lv_istore_n (lv' := [(2, .int v178), (0, .ref a0), (1, .int x1), (3, .int j157_L3)]) hx hb dX10_count_179 rfl hl (by decide) rfl (fun ls hl => ?_)
            obtain ⟨v180, e180⟩ : ∃ y : Int32, y = j157_L3 + 1 := ⟨_, rfl⟩
            have hv180 : iv v180 1 4 := by rw [e180]; exact iv_w (iv_add hj157_L3_159l (iv_c (x := (1 : Int32)) (k := 1) (by decide)) (by decide)) (by decide)
            have s180 : v180.toInt = j157_L3.toInt + 1 := by rw [e180, iv_addE hj157_L3_159l (iv_c (x := (1 : Int32)) (k := 1) (by decide)) (by decide)]; rfl
            refine lv_iinc (v := v180) (lv' := [(3, .int v180), (2, .int v178), (0, .ref a0), (1, .int x1)]) hx hb dX10_count_180 hl (k := 3) rfl (by rw [e180]; rfl) (by decide) rfl (fun ls hl => ?_)
            refine lv_goto (tgt := 157) hx hb dX10_count_183 (by decide) ?_
            exact ih v178 v180 _ _ (ms_up hm (by have := s180; omega) (iv_w (c := 1) (d := 4) hv180 (by decide)).2) (iv_w hv178 (by decide)) (iv_w hv180 (by decide))  hS (lv_sub hl [2, 3, 1, 0] rfl)
          refine lv_icmp_ne (tgt := 177) hx hb dX10_count_170 (by decide) (fun c170 => ?_) (fun c170 => ?_)
          · skip
            have klm1 : (-1 : Int32).toInt = (-1) := by decide
            have f170 := i_ne c170
            exact (iv_no (show iv v168 0 (-2) from iv_nel hv168 (iv_c (x := (-1 : Int32)) (k := (-1)) (by decide)) c170 (by decide)) (by decide)).elim
          · skip
            have klm1 : (-1 : Int32).toInt = (-1) := by decide
            have f170 := i_eq c170
            refine lv_iconst (v := 0) hx hb dX10_count_173 (by decide) ?_
            refine lv_goto (tgt := 178) hx hb dX10_count_174 (by decide) ?_
            exact J178  _ _    hS (lv_sub hl [0, 1, 2, 3] rfl)
    refine lv_istore_n (lv' := [(3, .int (0 : Int32)), (2, .int (0 : Int32)), (0, .ref a0), (1, .int x1)]) hx hb dX10_count_156 rfl hl (by decide) rfl (fun ls hl => ?_)
    exact J157 _ (0 : Int32) (0 : Int32) _ _ (Nat.lt_succ_self _) (iv_w (iv_c (x := (0 : Int32)) (k := 0) (by decide)) (by decide)) (iv_w (iv_c (x := (0 : Int32)) (k := 0) (by decide)) (by decide))  hS (lv_sub hl [2, 3, 1, 0] rfl)
  refine lv_tableOut (tgt := 188) hx hb dX10_count_3 (by have b0a := (hx1).1; have b0b := (hx1).2; omega) (by decide) ?_
  refine lv_iconst (v := (-1)) hx hb dX10_count_188 (by decide) ?_
  have klm1 : (-1 : Int32).toInt = (-1) := by decide
  exact ret _ _ _ _ _ dX10_count_189 (⟨rfl, by have b0a := (hx1).1; have b0b := (hx1).2; omega⟩) hS
set_option maxHeartbeats 4000000 in
set_option maxRecDepth 100000 in
theorem t_X10_row (l : Launch) {D : va_G} {c0 : Nat → ClassId} {Y : Nat → Option Nat} {H : Heap} (hT : TI D vwCl (tysOf c0) (RT1 true) Y H) {a0 : Nat} (ha0 : Y a0 = some 10) {x1 : Int32} (hx1 : iv x1 (-2147483648) 2147483647) {x2 : Int32} (hx2 : iv x2 (-2147483648) 2147483647) {x3 : Int32} (hx3 : iv x3 (-2147483648) 2147483647) : Met l yX10_row (wz yX10_row cX10_row 5 (some .int)) { frames := 2, cells := 0, slots := 0, locals := 45 } (TP D vwCl (tysOf c0) H [.ref a0, .int x1, .int x2, .int x3]) (TQi (fun x H' => TI D vwCl (tysOf c0) (RT1 true) Y H' ∧ (((x1.toInt < 0 ∨ 3 < x1.toInt ∨ x2.toInt < 0 ∨ 3 < x2.toInt ∨ 60 < x3.toInt) ∧ x.toInt = -2) ∨ (0 ≤ x1.toInt ∧ x1.toInt ≤ 3 ∧ 0 ≤ x2.toInt ∧ x2.toInt ≤ 3 ∧ x3.toInt < 0 ∧ x.toInt = -3) ∨ (0 ≤ x1.toInt ∧ x1.toInt ≤ 3 ∧ 0 ≤ x2.toInt ∧ x2.toInt ≤ 3 ∧ 0 ≤ x3.toInt ∧ x3.toInt ≤ 60 ∧ x.toInt = 0))) Y) 0 0 (pA Y) := by
  refine Met.ofW (cc := cX10_row) (maxL := 5) (ret := (some .int)) (by decide) rfl ?_
  intro p e s m args below meth c s₁ B hml hv
  obtain ⟨rfl, rfl, hK⟩ := hv
  have hx := B.exec
  have hb := B.bytes
  have hr := B.returns
  have hts : ∀ w ∈ wq, w.before _ s = true := fun w h => atoms_spec (ws := wz yX10_row cX10_row 5 (some .int)) B.pre w (List.mem_cons_of_mem _ h)
  have hown : s.vm.findClass RX10 = some m.cls := findClass_of_methodNamed B.named
  have hlocks := B.notSynchronized
  obtain ⟨R, hR⟩ : ∃ R : Room, R = ({ frames := 2, cells := 0, slots := 0, locals := 45 } : Room) := ⟨_, rfl⟩
  rw [show (headSpec (wz yX10_row cX10_row 5 (some .int)) { frames := 2, cells := 0, slots := 0, locals := 45 }).room = R from hR.symm]
  refine ti_mi hx hb hr hlocks (fun Q ret => ?_)
  have hl := lv_entry [.ref a0, .int x1, .int x2, .int x3] (n := 5) (Nat.le_of_ble_eq_true rfl)
  rw [lg_entry_eq]
  generalize (lg_sl [.ref a0, .int x1, .int x2, .int x3] ++ List.replicate (5 - (lg_sl [.ref a0, .int x1, .int x2, .int x3]).length) Slot.unset).toArray = ls at hl ⊢
  have hl : lv_has ls 5 [(0, .ref a0), (1, .int x1), (2, .int x2), (3, .int x3)] := hl
  refine ti_gen (P := fun H => TI D vwCl (tysOf c0) (RT1 true) Y H) (Y := Y) hT (fun H locs hT hS => ?_)
  refine lv_iload_n hx hb dX10_row_0 rfl (lv_at hl 1 rfl) ?_
  refine ti_calli (va_runS (As := [.int x1]) (rest := []) ⟨hx, hb, hml, hown, hts⟩ (t_X10_isSlot l hT (iv_w hx1 (by decide))) (cwS 1 hts (good_S kw_816 kw_817 kw_5 kw_818) rfl rfl rfl (by decide +kernel) ⟨by rw [hR]; decide, by rw [hR]; decide⟩) (ti_preS hK) rfl rfl hl.1 rfl (lv_room (Nat.le_of_ble_eq_true rfl)) dX10_row_1 ⟨Nat.zero_le _, Nat.zero_le _⟩) hS (fun _ h => h) (fun v1 H1 locs hB hS _ _ => ?_)
  obtain ⟨hH, hv1, hp1⟩ := hB
  rw [hH] at hS ⊢
  refine lv_if_eq (tgt := 25) hx hb dX10_row_4 (by decide) (fun c4 => ?_) (fun c4 => ?_)
  · skip
    have kl0 : (0 : Int32).toInt = 0 := by decide
    have f4 := i_eq c4
    have hv1_4l : iv v1 0 0 := iv_eql hv1 (iv_c (x := (0 : Int32)) (k := 0) (by decide)) c4 (by decide)
    refine lv_bipush (v := (-2)) hx hb dX10_row_25 (by decide) ?_
    have klm2 : (-2 : Int32).toInt = (-2) := by decide
    exact ret _ _ _ _ _ dX10_row_27 (⟨hT, by have b0a := (hx1).1; have b0b := (hx1).2; have b1a := (hx2).1; have b1b := (hx2).2; have b2a := (hx3).1; have b2b := (hx3).2; have b3a := (hv1_4l).1; have b3b := (hv1_4l).2; omega⟩) hS
  · skip
    have kl0 : (0 : Int32).toInt = 0 := by decide
    have f4 := i_ne c4
    have hv1_4l : iv v1 1 1 := iv_nel hv1 (iv_c (x := (0 : Int32)) (k := 0) (by decide)) c4 (by decide)
    have hx1_4p : iv x1 0 3 := by have b0a := (hx1).1; have b0b := (hx1).2; exact ⟨by omega, by omega⟩
    refine lv_iload_n hx hb dX10_row_7 rfl (lv_at hl 2 rfl) ?_
    refine lv_i2l hx hb dX10_row_8 rfl ?_
    refine lv_topl (fun v8 e8 => ?_)
    have hv8 : jv v8 (-2147483648) 2147483647 := by rw [e8]; exact jv_i hx2
    have t8 : v8.toInt = x2.toInt := by rw [e8]; exact jv_e _
    refine lv_lconst (v := 0) hx hb dX10_row_9 (by decide) ?_
    have kj0 : (0 : Int64).toInt = 0 := by decide
    refine lv_ldc2 (v := 3) hx hb hown (hts _ kw_485) dX10_row_10 ?_
    have kj3 : (3 : Int64).toInt = 3 := by decide
    refine ti_calli (va_runS (As := [.long v8, .long (0 : Int64), .long (3 : Int64)]) (rest := []) ⟨hx, hb, hml, hown, hts⟩ (t_X10_in l hT (jv_w hv8 (by decide)) (jv_w (jv_c (x := (0 : Int64)) (k := 0) (by decide)) (by decide)) (jv_w (jv_c (x := (3 : Int64)) (k := 3) (by decide)) (by decide))) (cwS 3 hts (good_S kw_181 kw_182 kw_5 kw_183) rfl rfl rfl (by decide +kernel) ⟨by rw [hR]; decide, by rw [hR]; decide⟩) (ti_preS hK) rfl rfl hl.1 rfl (lv_room (Nat.le_of_ble_eq_true rfl)) dX10_row_13 ⟨Nat.zero_le _, Nat.zero_le _⟩) hS (fun _ h => h) (fun v13 H1 locs hB hS _ _ => ?_)
    obtain ⟨hH, hv13, hp13⟩ := hB
    rw [hH] at hS ⊢
    refine lv_if_eq (tgt := 25) hx hb dX10_row_16 (by decide) (fun c16 => ?_) (fun c16 => ?_)
    · skip
      have f16 := i_eq c16
      have hv13_16l : iv v13 0 0 := iv_eql hv13 (iv_c (x := (0 : Int32)) (k := 0) (by decide)) c16 (by decide)
      refine lv_bipush (v := (-2)) hx hb dX10_row_25 (by decide) ?_
      have klm2 : (-2 : Int32).toInt = (-2) := by decide
      exact ret _ _ _ _ _ dX10_row_27 (⟨hT, by have b0a := (hx1_4p).1; have b0b := (hx1_4p).2; have b1a := (hx2).1; have b1b := (hx2).2; have b2a := (hx3).1; have b2b := (hx3).2; have b3a := (hv1_4l).1; have b3b := (hv1_4l).2; have b4a := (hv8).1; have b4b := (hv8).2; have b5a := (hv13_16l).1; have b5b := (hv13_16l).2; omega⟩) hS
    · skip
      have f16 := i_ne c16
      have hv13_16l : iv v13 1 1 := iv_nel hv13 (iv_c (x := (0 : Int32)) (k := 0) (by decide)) c16 (by decide)
      have hv8_16p : jv v8 0 3 := by have b0a := (hv8).1; have b0b := (hv8).2; have b1a := ((jv_c (x := (0 : Int64)) (k := 0) (by decide))).1; have b1b := ((jv_c (x := (0 : Int64)) (k := 0) (by decide))).2; have b2a := ((jv_c (x := (3 : Int64)) (k := 3) (by decide))).1; have b2b := ((jv_c (x := (3 : Int64)) (k := 3) (by decide))).2; exact ⟨by omega, by omega⟩
      have hx2_16p : iv x2 0 3 := by have := t8; have b0a := (hv8_16p).1; have b0b := (hv8_16p).2; have b1a := (hx2).1; have b1b := (hx2).2; exact ⟨by omega, by omega⟩
      refine lv_iload_n hx hb dX10_row_19 rfl (lv_at hl 3 rfl) ?_
      refine lv_bipush (v := 60) hx hb dX10_row_20 (by decide) ?_
      refine lv_icmp_le (tgt := 28) hx hb dX10_row_22 (by decide) (fun c22 => ?_) (fun c22 => ?_)
      · skip
        have kl60 : (60 : Int32).toInt = 60 := by decide
        have f22 := i_le c22
        have hx3_22l : iv x3 (-2147483648) 60 := iv_lel hx3 (iv_c (x := (60 : Int32)) (k := 60) (by decide)) c22 (by decide)
        refine lv_iload_n hx hb dX10_row_28 rfl (lv_at hl 3 rfl) ?_
        refine lv_if_ge (tgt := 35) hx hb dX10_row_29 (by decide) (fun c29 => ?_) (fun c29 => ?_)
        · skip
          have f29 := i_le c29
          have hx3_29r : iv x3 0 60 := iv_ler (iv_c (x := (0 : Int32)) (k := 0) (by decide)) hx3_22l c29 (by decide)
          refine lv_aload_n hx hb dX10_row_35 rfl (lv_at hl 0 rfl) ?_
          refine ti_getr hx hb hts inlX10 hown hK hT ha0 rfl rfl 34 (by decide) (hts _ kw_151) (fun _ h9 => h9) rfl dX10_row_36 (fun v36 hv36 => ?_)
          refine lv_iload_n hx hb dX10_row_39 rfl (lv_at hl 1 rfl) ?_
          refine lv_iload_n hx hb dX10_row_40 rfl (lv_at hl 3 rfl) ?_
          refine ti_iast hx hb (aT0 hK) hT hS hv36 rfl hx1_4p (by decide) (fun _ _ _ => ⟨_, _, rfl, by decide, by decide⟩) hx3_29r dX10_row_41 (fun H locs hT hS => ?_)
          refine lv_aload_n hx hb dX10_row_42 rfl (lv_at hl 0 rfl) ?_
          refine ti_getr hx hb hts inlX10 hown hK hT ha0 rfl rfl 35 (by decide) (hts _ kw_152) (fun _ h9 => h9) rfl dX10_row_43 (fun v43 hv43 => ?_)
          refine lv_iload_n hx hb dX10_row_46 rfl (lv_at hl 1 rfl) ?_
          refine lv_iload_n hx hb dX10_row_47 rfl (lv_at hl 2 rfl) ?_
          refine ti_iast hx hb (aT0 hK) hT hS hv43 rfl hx1_4p (by decide) (fun _ _ _ => ⟨_, _, rfl, by decide, by decide⟩) hx2_16p dX10_row_48 (fun H locs hT hS => ?_)
          refine lv_iconst (v := 0) hx hb dX10_row_49 (by decide) ?_
          have J52 : ∀ (n : Nat) (j52_L4 : Int32) (H : Heap) (locs : List Loc) (ls : Array Slot), (60 - j52_L4.toInt).toNat < n → iv j52_L4 0 60 → TI D vwCl (tysOf c0) (RT1 true) Y H → va_S (pA Y) s.heap H locs → lv_has ls 5 [(0, .ref a0), (1, .int x1), (2, .int x2), (3, .int x3), (4, .int j52_L4)] → W p l e R s m ([.ref a0, .int x1, .int x2, .int x3] : List Value).toArray below meth c H locs 0 0 Q (F0 m 52 ls []) := by
            intro n
            induction n with
            | zero => intro j52_L4 H locs ls hm; exact absurd hm (Nat.not_lt_zero _)
            | succ n ih =>
              intro j52_L4 H locs ls hm hj52_L4 hT hS hl
              refine lv_iload hx hb dX10_row_52 (lv_at hl 4 rfl) ?_
              refine lv_bipush (v := 60) hx hb dX10_row_54 (by decide) ?_
              refine lv_icmp_ge (tgt := 78) hx hb dX10_row_56 (by decide) (fun c56 => ?_) (fun c56 => ?_)
              · skip
                have f56 := i_le c56
                have hj52_L4_56r : iv j52_L4 60 60 := iv_ler (iv_c (x := (60 : Int32)) (k := 60) (by decide)) hj52_L4 c56 (by decide)
                refine lv_iconst (v := 0) hx hb dX10_row_78 (by decide) ?_
                exact ret _ _ _ _ _ dX10_row_79 (⟨hT, by have b0a := (hx1_4p).1; have b0b := (hx1_4p).2; have b1a := (hx2_16p).1; have b1b := (hx2_16p).2; have b2a := (hx3_29r).1; have b2b := (hx3_29r).2; have b3a := (hv1_4l).1; have b3b := (hv1_4l).2; have b4a := (hv8_16p).1; have b4b := (hv8_16p).2; have b5a := (hv13_16l).1; have b5b := (hv13_16l).2; have b6a := (hj52_L4_56r).1; have b6b := (hj52_L4_56r).2; omega⟩) hS
              · skip
                have f56 := i_nle c56
                have hj52_L4_56l : iv j52_L4 0 59 := iv_ltl hj52_L4 (iv_c (x := (60 : Int32)) (k := 60) (by decide)) (Int32.not_le.mp c56) (by decide)
                refine lv_aload_n hx hb dX10_row_59 rfl (lv_at hl 0 rfl) ?_
                refine ti_getr hx hb hts inlX10 hown hK hT ha0 rfl rfl 36 (by decide) (hts _ kw_153) (fun _ h9 => h9) rfl dX10_row_60 (fun v60 hv60 => ?_)
                refine lv_bipush (v := 60) hx hb dX10_row_63 (by decide) ?_
                refine lv_iload_n hx hb dX10_row_65 rfl (lv_at hl 1 rfl) ?_
                refine lv_imul hx hb dX10_row_66 ?_
                refine lv_topi (fun v66 e66 => ?_)
                have hv66 : iv v66 0 180 := by rw [e66]; exact iv_mul (iv_c (x := (60 : Int32)) (k := 60) (by decide)) hx1_4p (by decide)
                refine lv_iload hx hb dX10_row_67 (lv_at hl 4 rfl) ?_
                refine lv_iadd hx hb dX10_row_69 ?_
                refine lv_topi (fun v69 e69 => ?_)
                have hv69 : iv v69 0 239 := by rw [e69]; exact iv_w (iv_add hv66 hj52_L4_56l (by decide)) (by decide)
                have s69 : v69.toInt = v66.toInt + j52_L4.toInt := by rw [e69]; exact iv_addE hv66 hj52_L4_56l (by decide)
                refine lv_lconst (v := 0) hx hb dX10_row_70 (by decide) ?_
                refine ti_last hx hb (aT3 hK) hT hS hv60 rfl hv69 (by decide) (fun _ _ _ => rfl)  dX10_row_71 (fun H locs hT hS => ?_)
                obtain ⟨v72, e72⟩ : ∃ y : Int32, y = j52_L4 + 1 := ⟨_, rfl⟩
                have hv72 : iv v72 1 60 := by rw [e72]; exact iv_w (iv_add hj52_L4_56l (iv_c (x := (1 : Int32)) (k := 1) (by decide)) (by decide)) (by decide)
                have s72 : v72.toInt = j52_L4.toInt + 1 := by rw [e72, iv_addE hj52_L4_56l (iv_c (x := (1 : Int32)) (k := 1) (by decide)) (by decide)]; rfl
                refine lv_iinc (v := v72) (lv' := [(4, .int v72), (0, .ref a0), (1, .int x1), (2, .int x2), (3, .int x3)]) hx hb dX10_row_72 hl (k := 4) rfl (by rw [e72]; rfl) (by decide) rfl (fun ls hl => ?_)
                refine lv_goto (tgt := 52) hx hb dX10_row_75 (by decide) ?_
                exact ih v72 _ _ _ (ms_up hm (by have := s72; omega) (iv_w (c := 1) (d := 60) hv72 (by decide)).2) (iv_w hv72 (by decide)) hT hS (lv_sub hl [1, 2, 3, 4, 0] rfl)
          refine lv_istore (lv' := [(4, .int (0 : Int32)), (0, .ref a0), (1, .int x1), (2, .int x2), (3, .int x3)]) hx hb dX10_row_50 hl (by decide) rfl (fun ls hl => ?_)
          exact J52 _ (0 : Int32) _ _ _ (Nat.lt_succ_self _) (iv_w (iv_c (x := (0 : Int32)) (k := 0) (by decide)) (by decide)) hT hS (lv_sub hl [1, 2, 3, 4, 0] rfl)
        · skip
          have f29 := i_nle c29
          have hx3_29l : iv x3 (-2147483648) (-1) := iv_ltl hx3_22l (iv_c (x := (0 : Int32)) (k := 0) (by decide)) (Int32.not_le.mp c29) (by decide)
          refine lv_bipush (v := (-3)) hx hb dX10_row_32 (by decide) ?_
          have klm3 : (-3 : Int32).toInt = (-3) := by decide
          exact ret _ _ _ _ _ dX10_row_34 (⟨hT, by have b0a := (hx1_4p).1; have b0b := (hx1_4p).2; have b1a := (hx2_16p).1; have b1b := (hx2_16p).2; have b2a := (hx3_29l).1; have b2b := (hx3_29l).2; have b3a := (hv1_4l).1; have b3b := (hv1_4l).2; have b4a := (hv8_16p).1; have b4b := (hv8_16p).2; have b5a := (hv13_16l).1; have b5b := (hv13_16l).2; omega⟩) hS
      · skip
        have kl60 : (60 : Int32).toInt = 60 := by decide
        have f22 := i_nle c22
        have hx3_22r : iv x3 61 2147483647 := iv_ltr (iv_c (x := (60 : Int32)) (k := 60) (by decide)) hx3 (Int32.not_le.mp c22) (by decide)
        refine lv_bipush (v := (-2)) hx hb dX10_row_25 (by decide) ?_
        have klm2 : (-2 : Int32).toInt = (-2) := by decide
        exact ret _ _ _ _ _ dX10_row_27 (⟨hT, by have b0a := (hx1_4p).1; have b0b := (hx1_4p).2; have b1a := (hx2_16p).1; have b1b := (hx2_16p).2; have b2a := (hx3_22r).1; have b2b := (hx3_22r).2; have b3a := (hv1_4l).1; have b3b := (hv1_4l).2; have b4a := (hv8_16p).1; have b4b := (hv8_16p).2; have b5a := (hv13_16l).1; have b5b := (hv13_16l).2; omega⟩) hS
set_option maxHeartbeats 4000000 in
set_option maxRecDepth 100000 in
theorem t_X10_write (l : Launch) {D : va_G} {c0 : Nat → ClassId} {Y : Nat → Option Nat} {H : Heap} (hT : TI D vwCl (tysOf c0) (RT1 false) Y H) {a0 : Nat} (ha0 : Y a0 = some 10) {x1 : Int32} (hx1 : iv x1 (-2147483648) 2147483647) {x2 : Int32} (hx2 : iv x2 (-2147483648) 2147483647) {x3 : Int64} (hx3 : jv x3 (-9223372036854775808) 9223372036854775807) : Met l yX10_write (wz yX10_write cX10_write 5 (some .int)) { frames := 2, cells := 0, slots := 0, locals := 45 } (TP D vwCl (tysOf c0) H [.ref a0, .int x1, .int x2, .long x3]) (TQi (fun x H' => H' = H ∧ (((x1.toInt < 0 ∨ 3 < x1.toInt) ∧ x.toInt = -2) ∨ (0 ≤ x1.toInt ∧ x1.toInt ≤ 3 ∧ x.toInt = -6))) Y) 0 0 (pA Y) := by
  refine Met.ofW (cc := cX10_write) (maxL := 5) (ret := (some .int)) (by decide) rfl ?_
  intro p e s m args below meth c s₁ B hml hv
  obtain ⟨rfl, rfl, hK⟩ := hv
  have hx := B.exec
  have hb := B.bytes
  have hr := B.returns
  have hts : ∀ w ∈ wq, w.before _ s = true := fun w h => atoms_spec (ws := wz yX10_write cX10_write 5 (some .int)) B.pre w (List.mem_cons_of_mem _ h)
  have hown : s.vm.findClass RX10 = some m.cls := findClass_of_methodNamed B.named
  have hlocks := B.notSynchronized
  obtain ⟨R, hR⟩ : ∃ R : Room, R = ({ frames := 2, cells := 0, slots := 0, locals := 45 } : Room) := ⟨_, rfl⟩
  rw [show (headSpec (wz yX10_write cX10_write 5 (some .int)) { frames := 2, cells := 0, slots := 0, locals := 45 }).room = R from hR.symm]
  refine ti_mi hx hb hr hlocks (fun Q ret => ?_)
  have hl := lv_entry [.ref a0, .int x1, .int x2, .long x3] (n := 5) (Nat.le_of_ble_eq_true rfl)
  rw [lg_entry_eq]
  generalize (lg_sl [.ref a0, .int x1, .int x2, .long x3] ++ List.replicate (5 - (lg_sl [.ref a0, .int x1, .int x2, .long x3]).length) Slot.unset).toArray = ls at hl ⊢
  have hl : lv_has ls 5 [(0, .ref a0), (1, .int x1), (2, .int x2), (3, .long x3)] := hl
  have hS : va_S (pA Y) s.heap s.heap [] := va_S.rf
  refine lv_iload_n hx hb dX10_write_0 rfl (lv_at hl 1 rfl) ?_
  refine ti_calli (va_runS (As := [.int x1]) (rest := []) ⟨hx, hb, hml, hown, hts⟩ (t_X10_isSlot l hT (iv_w hx1 (by decide))) (cwS 1 hts (good_S kw_816 kw_817 kw_5 kw_818) rfl rfl rfl (by decide +kernel) ⟨by rw [hR]; decide, by rw [hR]; decide⟩) (ti_preS hK) rfl rfl hl.1 rfl (lv_room (Nat.le_of_ble_eq_true rfl)) dX10_write_1 ⟨Nat.zero_le _, Nat.zero_le _⟩) hS (fun _ h => h) (fun v1 H1 locs hB hS _ _ => ?_)
  obtain ⟨hH, hv1, hp1⟩ := hB
  rw [hH] at hS ⊢
  refine lv_if_ne (tgt := 10) hx hb dX10_write_4 (by decide) (fun c4 => ?_) (fun c4 => ?_)
  · skip
    have kl0 : (0 : Int32).toInt = 0 := by decide
    have f4 := i_ne c4
    have hv1_4l : iv v1 1 1 := iv_nel hv1 (iv_c (x := (0 : Int32)) (k := 0) (by decide)) c4 (by decide)
    have hx1_4p : iv x1 0 3 := by have b0a := (hx1).1; have b0b := (hx1).2; exact ⟨by omega, by omega⟩
    refine lv_aload_n hx hb dX10_write_10 rfl (lv_at hl 0 rfl) ?_
    refine ti_getr hx hb hts inlX10 hown hK hT ha0 rfl rfl 34 (by decide) (hts _ kw_151) (fun _ h9 => h9) rfl dX10_write_11 (fun v11 hv11 => ?_)
    refine lv_iload_n hx hb dX10_write_14 rfl (lv_at hl 1 rfl) ?_
    refine ti_iald (lo := (-1)) (hi := (-1)) hx hb (aT0 hK) hT hv11 rfl hx1_4p (by decide) (fun _ _ _ => ⟨_, _, rfl, by decide, by decide⟩) dX10_write_15 (fun v15 hv15 => ?_)
    refine lv_iconst (v := (-1)) hx hb dX10_write_16 (by decide) ?_
    refine lv_icmp_ne (tgt := 23) hx hb dX10_write_17 (by decide) (fun c17 => ?_) (fun c17 => ?_)
    · skip
      have klm1 : (-1 : Int32).toInt = (-1) := by decide
      have f17 := i_ne c17
      exact (iv_no (show iv v15 0 (-2) from iv_nel hv15 (iv_c (x := (-1 : Int32)) (k := (-1)) (by decide)) c17 (by decide)) (by decide)).elim
    · skip
      have klm1 : (-1 : Int32).toInt = (-1) := by decide
      have f17 := i_eq c17
      refine lv_bipush (v := (-6)) hx hb dX10_write_20 (by decide) ?_
      have klm6 : (-6 : Int32).toInt = (-6) := by decide
      exact ret _ _ _ _ _ dX10_write_22 (⟨rfl, by have b0a := (hx1_4p).1; have b0b := (hx1_4p).2; have b1a := (hx2).1; have b1b := (hx2).2; have b2a := (hx3).1; have b2b := (hx3).2; have b3a := (hv1_4l).1; have b3b := (hv1_4l).2; have b4a := (hv15).1; have b4b := (hv15).2; omega⟩) hS
  · skip
    have kl0 : (0 : Int32).toInt = 0 := by decide
    have f4 := i_eq c4
    have hv1_4l : iv v1 0 0 := iv_eql hv1 (iv_c (x := (0 : Int32)) (k := 0) (by decide)) c4 (by decide)
    refine lv_bipush (v := (-2)) hx hb dX10_write_7 (by decide) ?_
    have klm2 : (-2 : Int32).toInt = (-2) := by decide
    exact ret _ _ _ _ _ dX10_write_9 (⟨rfl, by have b0a := (hx1).1; have b0b := (hx1).2; have b1a := (hx2).1; have b1b := (hx2).2; have b2a := (hx3).1; have b2b := (hx3).2; have b3a := (hv1_4l).1; have b3b := (hv1_4l).2; omega⟩) hS
set_option maxHeartbeats 4000000 in
set_option maxRecDepth 100000 in
theorem t_X10_paste (l : Launch) {D : va_G} {c0 : Nat → ClassId} {Y : Nat → Option Nat} {H : Heap} (hT : TI D vwCl (tysOf c0) (RT1 false) Y H) {a0 : Nat} (ha0 : Y a0 = some 10) {x1 : Int32} (hx1 : iv x1 (-2147483648) 2147483647) {x2 : Int32} (hx2 : iv x2 (-2147483648) 2147483647) {x3 : Int32} (hx3 : iv x3 (-2147483648) 2147483647) {x4 : Int32} (hx4 : iv x4 (-2147483648) 2147483647) {x5 : Int32} (hx5 : iv x5 (-2147483648) 2147483647) : Met l yX10_paste (wz yX10_paste cX10_paste 7 (some .int)) { frames := 2, cells := 0, slots := 0, locals := 45 } (TP D vwCl (tysOf c0) H [.ref a0, .int x1, .int x2, .int x3, .int x4, .int x5]) (TQi (fun x H' => H' = H ∧ (((x1.toInt < 0 ∨ 3 < x1.toInt ∨ x3.toInt < 0 ∨ 3 < x3.toInt) ∧ x.toInt = -2) ∨ (0 ≤ x1.toInt ∧ x1.toInt ≤ 3 ∧ 0 ≤ x3.toInt ∧ x3.toInt ≤ 3 ∧ x.toInt = -6))) Y) 0 0 (pA Y) := by
  refine Met.ofW (cc := cX10_paste) (maxL := 7) (ret := (some .int)) (by decide) rfl ?_
  intro p e s m args below meth c s₁ B hml hv
  obtain ⟨rfl, rfl, hK⟩ := hv
  have hx := B.exec
  have hb := B.bytes
  have hr := B.returns
  have hts : ∀ w ∈ wq, w.before _ s = true := fun w h => atoms_spec (ws := wz yX10_paste cX10_paste 7 (some .int)) B.pre w (List.mem_cons_of_mem _ h)
  have hown : s.vm.findClass RX10 = some m.cls := findClass_of_methodNamed B.named
  have hlocks := B.notSynchronized
  obtain ⟨R, hR⟩ : ∃ R : Room, R = ({ frames := 2, cells := 0, slots := 0, locals := 45 } : Room) := ⟨_, rfl⟩
  rw [show (headSpec (wz yX10_paste cX10_paste 7 (some .int)) { frames := 2, cells := 0, slots := 0, locals := 45 }).room = R from hR.symm]
  refine ti_mi hx hb hr hlocks (fun Q ret => ?_)
  have hl := lv_entry [.ref a0, .int x1, .int x2, .int x3, .int x4, .int x5] (n := 7) (Nat.le_of_ble_eq_true rfl)
  rw [lg_entry_eq]
  generalize (lg_sl [.ref a0, .int x1, .int x2, .int x3, .int x4, .int x5] ++ List.replicate (7 - (lg_sl [.ref a0, .int x1, .int x2, .int x3, .int x4, .int x5]).length) Slot.unset).toArray = ls at hl ⊢
  have hl : lv_has ls 7 [(0, .ref a0), (1, .int x1), (2, .int x2), (3, .int x3), (4, .int x4), (5, .int x5)] := hl
  have hS : va_S (pA Y) s.heap s.heap [] := va_S.rf
  refine lv_iload_n hx hb dX10_paste_0 rfl (lv_at hl 1 rfl) ?_
  refine ti_calli (va_runS (As := [.int x1]) (rest := []) ⟨hx, hb, hml, hown, hts⟩ (t_X10_isSlot l hT (iv_w hx1 (by decide))) (cwS 1 hts (good_S kw_816 kw_817 kw_5 kw_818) rfl rfl rfl (by decide +kernel) ⟨by rw [hR]; decide, by rw [hR]; decide⟩) (ti_preS hK) rfl rfl hl.1 rfl (lv_room (Nat.le_of_ble_eq_true rfl)) dX10_paste_1 ⟨Nat.zero_le _, Nat.zero_le _⟩) hS (fun _ h => h) (fun v1 H1 locs hB hS _ _ => ?_)
  obtain ⟨hH, hv1, hp1⟩ := hB
  rw [hH] at hS ⊢
  refine lv_if_eq (tgt := 14) hx hb dX10_paste_4 (by decide) (fun c4 => ?_) (fun c4 => ?_)
  · skip
    have kl0 : (0 : Int32).toInt = 0 := by decide
    have f4 := i_eq c4
    have hv1_4l : iv v1 0 0 := iv_eql hv1 (iv_c (x := (0 : Int32)) (k := 0) (by decide)) c4 (by decide)
    refine lv_bipush (v := (-2)) hx hb dX10_paste_14 (by decide) ?_
    have klm2 : (-2 : Int32).toInt = (-2) := by decide
    exact ret _ _ _ _ _ dX10_paste_16 (⟨rfl, by have b0a := (hx1).1; have b0b := (hx1).2; have b1a := (hx2).1; have b1b := (hx2).2; have b2a := (hx3).1; have b2b := (hx3).2; have b3a := (hx4).1; have b3b := (hx4).2; have b4a := (hx5).1; have b4b := (hx5).2; have b5a := (hv1_4l).1; have b5b := (hv1_4l).2; omega⟩) hS
  · skip
    have kl0 : (0 : Int32).toInt = 0 := by decide
    have f4 := i_ne c4
    have hv1_4l : iv v1 1 1 := iv_nel hv1 (iv_c (x := (0 : Int32)) (k := 0) (by decide)) c4 (by decide)
    have hx1_4p : iv x1 0 3 := by have b0a := (hx1).1; have b0b := (hx1).2; exact ⟨by omega, by omega⟩
    refine lv_iload_n hx hb dX10_paste_7 rfl (lv_at hl 3 rfl) ?_
    refine ti_calli (va_runS (As := [.int x3]) (rest := []) ⟨hx, hb, hml, hown, hts⟩ (t_X10_isSlot l hT (iv_w hx3 (by decide))) (cwS 1 hts (good_S kw_816 kw_817 kw_5 kw_818) rfl rfl rfl (by decide +kernel) ⟨by rw [hR]; decide, by rw [hR]; decide⟩) (ti_preS hK) rfl rfl hl.1 rfl (lv_room (Nat.le_of_ble_eq_true rfl)) dX10_paste_8 ⟨Nat.zero_le _, Nat.zero_le _⟩) hS (fun _ h => h) (fun v8 H1 locs hB hS _ _ => ?_)
    obtain ⟨hH, hv8, hp8⟩ := hB
    rw [hH] at hS ⊢
    refine lv_if_ne (tgt := 17) hx hb dX10_paste_11 (by decide) (fun c11 => ?_) (fun c11 => ?_)
    · skip
      have f11 := i_ne c11
      have hv8_11l : iv v8 1 1 := iv_nel hv8 (iv_c (x := (0 : Int32)) (k := 0) (by decide)) c11 (by decide)
      have hx3_11p : iv x3 0 3 := by have b0a := (hx3).1; have b0b := (hx3).2; exact ⟨by omega, by omega⟩
      refine lv_aload_n hx hb dX10_paste_17 rfl (lv_at hl 0 rfl) ?_
      refine ti_getr hx hb hts inlX10 hown hK hT ha0 rfl rfl 34 (by decide) (hts _ kw_151) (fun _ h9 => h9) rfl dX10_paste_18 (fun v18 hv18 => ?_)
      refine lv_iload_n hx hb dX10_paste_21 rfl (lv_at hl 1 rfl) ?_
      refine ti_iald (lo := (-1)) (hi := (-1)) hx hb (aT0 hK) hT hv18 rfl hx1_4p (by decide) (fun _ _ _ => ⟨_, _, rfl, by decide, by decide⟩) dX10_paste_22 (fun v22 hv22 => ?_)
      refine lv_iconst (v := (-1)) hx hb dX10_paste_23 (by decide) ?_
      refine lv_icmp_eq (tgt := 37) hx hb dX10_paste_24 (by decide) (fun c24 => ?_) (fun c24 => ?_)
      · skip
        have klm1 : (-1 : Int32).toInt = (-1) := by decide
        have f24 := i_eq c24
        refine lv_bipush (v := (-6)) hx hb dX10_paste_37 (by decide) ?_
        have klm6 : (-6 : Int32).toInt = (-6) := by decide
        exact ret _ _ _ _ _ dX10_paste_39 (⟨rfl, by have b0a := (hx1_4p).1; have b0b := (hx1_4p).2; have b1a := (hx2).1; have b1b := (hx2).2; have b2a := (hx3_11p).1; have b2b := (hx3_11p).2; have b3a := (hx4).1; have b3b := (hx4).2; have b4a := (hx5).1; have b4b := (hx5).2; have b5a := (hv1_4l).1; have b5b := (hv1_4l).2; have b6a := (hv8_11l).1; have b6b := (hv8_11l).2; have b7a := (hv22).1; have b7b := (hv22).2; omega⟩) hS
      · skip
        have klm1 : (-1 : Int32).toInt = (-1) := by decide
        have f24 := i_ne c24
        exact (iv_no (show iv v22 0 (-2) from iv_nel hv22 (iv_c (x := (-1 : Int32)) (k := (-1)) (by decide)) c24 (by decide)) (by decide)).elim
    · skip
      have f11 := i_eq c11
      have hv8_11l : iv v8 0 0 := iv_eql hv8 (iv_c (x := (0 : Int32)) (k := 0) (by decide)) c11 (by decide)
      refine lv_bipush (v := (-2)) hx hb dX10_paste_14 (by decide) ?_
      have klm2 : (-2 : Int32).toInt = (-2) := by decide
      exact ret _ _ _ _ _ dX10_paste_16 (⟨rfl, by have b0a := (hx1_4p).1; have b0b := (hx1_4p).2; have b1a := (hx2).1; have b1b := (hx2).2; have b2a := (hx3).1; have b2b := (hx3).2; have b3a := (hx4).1; have b3b := (hx4).2; have b4a := (hx5).1; have b4b := (hx5).2; have b5a := (hv1_4l).1; have b5b := (hv1_4l).2; have b6a := (hv8_11l).1; have b6b := (hv8_11l).2; omega⟩) hS
set_option maxHeartbeats 4000000 in
set_option maxRecDepth 100000 in
theorem t_X9_town (l : Launch) {D : va_G} {c0 : Nat → ClassId} {Y : Nat → Option Nat} {H : Heap} (hT : TI D vwCl (tysOf c0) (RT1 false) Y H) {a0 : Nat} (ha0 : Y a0 = some 9) : Met l yX9_town (wz yX9_town cX9_town 1 (some .int)) { frames := 3, cells := 0, slots := 0, locals := 103 } (TP D vwCl (tysOf c0) H [.ref a0]) (TQi (fun x H' => TI D vwCl (tysOf c0) (RT1 false) Y H' ∧ iv x 0 0) Y) 0 0 (pA Y) := by
  refine Met.ofW (cc := cX9_town) (maxL := 1) (ret := (some .int)) (by decide) rfl ?_
  intro p e s m args below meth c s₁ B hml hv
  obtain ⟨rfl, rfl, hK⟩ := hv
  have hx := B.exec
  have hb := B.bytes
  have hr := B.returns
  have hts : ∀ w ∈ wq, w.before _ s = true := fun w h => atoms_spec (ws := wz yX9_town cX9_town 1 (some .int)) B.pre w (List.mem_cons_of_mem _ h)
  have hown : s.vm.findClass RX9 = some m.cls := findClass_of_methodNamed B.named
  have hlocks := B.notSynchronized
  obtain ⟨R, hR⟩ : ∃ R : Room, R = ({ frames := 3, cells := 0, slots := 0, locals := 103 } : Room) := ⟨_, rfl⟩
  rw [show (headSpec (wz yX9_town cX9_town 1 (some .int)) { frames := 3, cells := 0, slots := 0, locals := 103 }).room = R from hR.symm]
  refine ti_mi hx hb hr hlocks (fun Q ret => ?_)
  have hl := lv_entry [.ref a0] (n := 1) (Nat.le_of_ble_eq_true rfl)
  rw [lg_entry_eq]
  generalize (lg_sl [.ref a0] ++ List.replicate (1 - (lg_sl [.ref a0]).length) Slot.unset).toArray = ls at hl ⊢
  have hl : lv_has ls 1 [(0, .ref a0)] := hl
  refine ti_gen (P := fun H => TI D vwCl (tysOf c0) (RT1 false) Y H) (Y := Y) hT (fun H locs hT hS => ?_)
  refine lv_aload_n hx hb dX9_town_0 rfl (lv_at hl 0 rfl) ?_
  refine ti_getr hx hb hts inlX9 hown hK hT ha0 rfl rfl 0 (by decide) (hts _ kw_16) (fun _ h9 => h9) rfl dX9_town_1 (fun v1 hv1 => ?_)
  refine ti_calli (va_runV (As := []) (rest := []) ⟨hx, hb, hml, hown, hts⟩ (t_X6_read l hT hv1) (cwV 0 hts (good_V kw_190 kw_191 kw_192 kw_15 kw_193) rfl rfl rfl (by decide +kernel) ⟨by rw [hR]; decide, by rw [hR]; decide⟩) (ti_preV hK hT hv1 rfl rfl) rfl rfl hl.1 rfl (lv_room (Nat.le_of_ble_eq_true rfl)) dX9_town_4 ⟨Nat.zero_le _, Nat.zero_le _⟩) hS (fun _ h => h) (fun v4 H1 locs hB hS _ _ => ?_)
  obtain ⟨hT, hv4⟩ := hB
  generalize H1 = H at hT hS ⊢
  refine lv_if_ne (tgt := 13) hx hb dX9_town_7 (by decide) (fun c7 => ?_) (fun c7 => ?_)
  · skip
    have kl0 : (0 : Int32).toInt = 0 := by decide
    have f7 := i_ne c7
    refine lv_aload_n hx hb dX9_town_13 rfl (lv_at hl 0 rfl) ?_
    refine ti_getr hx hb hts inlX9 hown hK hT ha0 rfl rfl 1 (by decide) (hts _ kw_20) (fun _ h9 => h9) rfl dX9_town_14 (fun v14 hv14 => ?_)
    refine lv_aload_n hx hb dX9_town_17 rfl (lv_at hl 0 rfl) ?_
    refine ti_getr hx hb hts inlX9 hown hK hT ha0 rfl rfl 0 (by decide) (hts _ kw_16) (fun _ h9 => h9) rfl dX9_town_18 (fun v18 hv18 => ?_)
    refine ti_getr hx hb hts inlX6 hown hK hT hv18 rfl rfl 2 (by decide) (hts _ kw_188) (fun _ h9 => h9) rfl dX9_town_21 (fun v21 hv21 => ?_)
    refine ti_callv (va_runV (As := [.ref v21]) (rest := []) ⟨hx, hb, hml, hown, hts⟩ (t_X7_copyFrom l hT hv14 hv21) (cwV 1 hts (good_V kw_342 kw_343 kw_344 kw_19 kw_345) rfl rfl rfl (by decide +kernel) ⟨by rw [hR]; decide, by rw [hR]; decide⟩) (ti_preV hK hT hv14 rfl rfl) rfl rfl hl.1 rfl (lv_room (Nat.le_of_ble_eq_true rfl)) dX9_town_24 ⟨Nat.zero_le _, Nat.zero_le _⟩) hS (fun _ h => h) (fun H1 locs hB hS _ _ => ?_)
    have hT := hB
    generalize H1 = H at hT hS ⊢
    refine lv_aload_n hx hb dX9_town_27 rfl (lv_at hl 0 rfl) ?_
    refine ti_getr hx hb hts inlX9 hown hK hT ha0 rfl rfl 0 (by decide) (hts _ kw_16) (fun _ h9 => h9) rfl dX9_town_28 (fun v28 hv28 => ?_)
    refine lv_iconst (v := 0) hx hb dX9_town_31 (by decide) ?_
    refine ti_put (ty := .int) hx hb hts inlX6 tyX6 tyX6_ok nmX6 hown hK hT hS hv28 rfl rfl 1 (by decide) (hts _ kw_162) (fun _ h9 => h9) rfl rfl (by decide +kernel) rfl rfl ⟨(0 : Int32), rfl, iv_w (iv_c (x := (0 : Int32)) (k := 0) (by decide)) (by decide)⟩ dX9_town_32 (fun H locs hT hS => ?_)
    refine lv_aload_n hx hb dX9_town_35 rfl (lv_at hl 0 rfl) ?_
    refine ti_getr hx hb hts inlX9 hown hK hT ha0 rfl rfl 1 (by decide) (hts _ kw_20) (fun _ h9 => h9) rfl dX9_town_36 (fun v36 hv36 => ?_)
    refine ti_geti hx hb hts inlX7 hown hK hT hv36 rfl rfl 2 (by decide) (hts _ kw_189) (fun _ h9 => h9) rfl dX9_town_39 (fun v39 hv39 => ?_)
    exact ret _ _ _ _ _ dX9_town_42 (⟨hT, iv_w hv39 (by decide)⟩) hS
  · skip
    have kl0 : (0 : Int32).toInt = 0 := by decide
    have f7 := i_eq c7
    exact (iv_no (show iv v4 1 0 from iv_eql hv4 (iv_c (x := (0 : Int32)) (k := 0) (by decide)) c7 (by decide)) (by decide)).elim
set_option maxHeartbeats 4000000 in
set_option maxRecDepth 100000 in
theorem t_X10_empties (l : Launch) {D : va_G} {c0 : Nat → ClassId} {Y : Nat → Option Nat} {H : Heap} (hT : TI D vwCl (tysOf c0) (RT1 true) Y H) {a0 : Nat} (ha0 : Y a0 = some 36) : Met l yX10_empties (wz yX10_empties cX10_empties 2 none) { frames := 0, cells := 0, slots := 0, locals := 0 } (TP D vwCl (tysOf c0) H [.ref a0]) (TQv (fun H' => TI D vwCl (tysOf c0) (RT1 true) Y H') Y) 0 0 (pA Y) := by
  refine Met.ofW (cc := cX10_empties) (maxL := 2) (ret := none) (by decide) rfl ?_
  intro p e s m args below meth c s₁ B hml hv
  obtain ⟨rfl, rfl, hK⟩ := hv
  have hx := B.exec
  have hb := B.bytes
  have hr := B.returns
  have hts : ∀ w ∈ wq, w.before _ s = true := fun w h => atoms_spec (ws := wz yX10_empties cX10_empties 2 none) B.pre w (List.mem_cons_of_mem _ h)
  have hown : s.vm.findClass RX10 = some m.cls := findClass_of_methodNamed B.named
  have hlocks := B.notSynchronized
  obtain ⟨R, hR⟩ : ∃ R : Room, R = ({ frames := 0, cells := 0, slots := 0, locals := 0 } : Room) := ⟨_, rfl⟩
  rw [show (headSpec (wz yX10_empties cX10_empties 2 none) { frames := 0, cells := 0, slots := 0, locals := 0 }).room = R from hR.symm]
  refine ti_mv hx hb hr hlocks (fun Q ret => ?_)
  have hl := lv_entry [.ref a0] (n := 2) (Nat.le_of_ble_eq_true rfl)
  rw [lg_entry_eq]
  generalize (lg_sl [.ref a0] ++ List.replicate (2 - (lg_sl [.ref a0]).length) Slot.unset).toArray = ls at hl ⊢
  have hl : lv_has ls 2 [(0, .ref a0)] := hl
  refine ti_gen (P := fun H => TI D vwCl (tysOf c0) (RT1 true) Y H) (Y := Y) hT (fun H locs hT hS => ?_)
  refine lv_iconst (v := 0) hx hb dX10_empties_0 (by decide) ?_
  have J2 : ∀ (n : Nat) (j2_L1 : Int32) (H : Heap) (locs : List Loc) (ls : Array Slot), (178 - j2_L1.toInt).toNat < n → iv j2_L1 0 178 → TI D vwCl (tysOf c0) (RT1 true) Y H → va_S (pA Y) s.heap H locs → lv_has ls 2 [(0, .ref a0), (1, .int j2_L1)] → W p l e R s m ([.ref a0] : List Value).toArray below meth c H locs 0 0 Q (F0 m 2 ls []) := by
    intro n
    induction n with
    | zero => intro j2_L1 H locs ls hm; exact absurd hm (Nat.not_lt_zero _)
    | succ n ih =>
      intro j2_L1 H locs ls hm hj2_L1 hT hS hl
      refine lv_iload_n hx hb dX10_empties_2 rfl (lv_at hl 1 rfl) ?_
      refine lv_sipush (v := 178) hx hb dX10_empties_3 (by decide) ?_
      refine lv_icmp_ge (tgt := 19) hx hb dX10_empties_6 (by decide) (fun c6 => ?_) (fun c6 => ?_)
      · skip
        have kl178 : (178 : Int32).toInt = 178 := by decide
        have f6 := i_le c6
        have hj2_L1_6r : iv j2_L1 178 178 := iv_ler (iv_c (x := (178 : Int32)) (k := 178) (by decide)) hj2_L1 c6 (by decide)
        refine lv_aload_n hx hb dX10_empties_19 rfl (lv_at hl 0 rfl) ?_
        refine lv_iconst (v := 3) hx hb dX10_empties_20 (by decide) ?_
        refine lv_iconst (v := 2) hx hb dX10_empties_21 (by decide) ?_
        refine ti_iast hx hb (aT0 hK) hT hS ha0 rfl (iv_c (x := (3 : Int32)) (k := 3) (by decide)) (by decide) (one_s 3 rfl rfl (by decide) (by decide)) (iv_c (x := (2 : Int32)) (k := 2) (by decide)) dX10_empties_22 (fun H locs hT hS => ?_)
        refine lv_iconst (v := 0) hx hb dX10_empties_23 (by decide) ?_
        have J25 : ∀ (n : Nat) (j25_L1 : Int32) (H : Heap) (locs : List Loc) (ls : Array Slot), (64 - j25_L1.toInt).toNat < n → iv j25_L1 0 64 → TI D vwCl (tysOf c0) (RT1 true) Y H → va_S (pA Y) s.heap H locs → lv_has ls 2 [(0, .ref a0), (1, .int j25_L1)] → W p l e R s m ([.ref a0] : List Value).toArray below meth c H locs 0 0 Q (F0 m 25 ls []) := by
          intro n
          induction n with
          | zero => intro j25_L1 H locs ls hm; exact absurd hm (Nat.not_lt_zero _)
          | succ n ih =>
            intro j25_L1 H locs ls hm hj25_L1 hT hS hl
            refine lv_iload_n hx hb dX10_empties_25 rfl (lv_at hl 1 rfl) ?_
            refine lv_bipush (v := 64) hx hb dX10_empties_26 (by decide) ?_
            refine lv_icmp_ge (tgt := 44) hx hb dX10_empties_28 (by decide) (fun c28 => ?_) (fun c28 => ?_)
            · skip
              have kl64 : (64 : Int32).toInt = 64 := by decide
              have f28 := i_le c28
              have hj25_L1_28r : iv j25_L1 64 64 := iv_ler (iv_c (x := (64 : Int32)) (k := 64) (by decide)) hj25_L1 c28 (by decide)
              exact ret _ _ _ _ dX10_empties_44 (hT) hS
            · skip
              have kl64 : (64 : Int32).toInt = 64 := by decide
              have f28 := i_nle c28
              have hj25_L1_28l : iv j25_L1 0 63 := iv_ltl hj25_L1 (iv_c (x := (64 : Int32)) (k := 64) (by decide)) (Int32.not_le.mp c28) (by decide)
              refine lv_aload_n hx hb dX10_empties_31 rfl (lv_at hl 0 rfl) ?_
              refine lv_bipush (v := 96) hx hb dX10_empties_32 (by decide) ?_
              refine lv_iload_n hx hb dX10_empties_34 rfl (lv_at hl 1 rfl) ?_
              refine lv_iadd hx hb dX10_empties_35 ?_
              refine lv_topi (fun v35 e35 => ?_)
              have hv35 : iv v35 96 159 := by rw [e35]; exact iv_w (iv_add (iv_c (x := (96 : Int32)) (k := 96) (by decide)) hj25_L1_28l (by decide)) (by decide)
              have s35 : v35.toInt = (96 : Int32).toInt + j25_L1.toInt := by rw [e35]; exact iv_addE (iv_c (x := (96 : Int32)) (k := 96) (by decide)) hj25_L1_28l (by decide)
              refine lv_iconst (v := 1) hx hb dX10_empties_36 (by decide) ?_
              refine ti_iast hx hb (aT0 hK) hT hS ha0 rfl hv35 (by decide) (fun j h1 h2 => wf1_st _ j (by omega) (by decide) (by decide)) (iv_c (x := (1 : Int32)) (k := 1) (by decide)) dX10_empties_37 (fun H locs hT hS => ?_)
              obtain ⟨v38, e38⟩ : ∃ y : Int32, y = j25_L1 + 1 := ⟨_, rfl⟩
              have hv38 : iv v38 1 64 := by rw [e38]; exact iv_w (iv_add hj25_L1_28l (iv_c (x := (1 : Int32)) (k := 1) (by decide)) (by decide)) (by decide)
              have s38 : v38.toInt = j25_L1.toInt + 1 := by rw [e38, iv_addE hj25_L1_28l (iv_c (x := (1 : Int32)) (k := 1) (by decide)) (by decide)]; rfl
              refine lv_iinc (v := v38) (lv' := [(1, .int v38), (0, .ref a0)]) hx hb dX10_empties_38 hl (k := 1) rfl (by rw [e38]; rfl) (by decide) rfl (fun ls hl => ?_)
              refine lv_goto (tgt := 25) hx hb dX10_empties_41 (by decide) ?_
              exact ih v38 _ _ _ (ms_up hm (by have := s38; omega) (iv_w (c := 1) (d := 64) hv38 (by decide)).2) (iv_w hv38 (by decide)) hT hS (lv_sub hl [1, 0] rfl)
        refine lv_istore_n (lv' := [(1, .int (0 : Int32)), (0, .ref a0)]) hx hb dX10_empties_24 rfl hl (by decide) rfl (fun ls hl => ?_)
        exact J25 _ (0 : Int32) _ _ _ (Nat.lt_succ_self _) (iv_w (iv_c (x := (0 : Int32)) (k := 0) (by decide)) (by decide)) hT hS (lv_sub hl [1, 0] rfl)
      · skip
        have kl178 : (178 : Int32).toInt = 178 := by decide
        have f6 := i_nle c6
        have hj2_L1_6l : iv j2_L1 0 177 := iv_ltl hj2_L1 (iv_c (x := (178 : Int32)) (k := 178) (by decide)) (Int32.not_le.mp c6) (by decide)
        refine lv_aload_n hx hb dX10_empties_9 rfl (lv_at hl 0 rfl) ?_
        refine lv_iload_n hx hb dX10_empties_10 rfl (lv_at hl 1 rfl) ?_
        refine lv_iconst (v := 0) hx hb dX10_empties_11 (by decide) ?_
        refine ti_iast hx hb (aT0 hK) hT hS ha0 rfl hj2_L1_6l (by decide) (fun j h1 h2 => wf1_z j) (iv_c (x := (0 : Int32)) (k := 0) (by decide)) dX10_empties_12 (fun H locs hT hS => ?_)
        obtain ⟨v13, e13⟩ : ∃ y : Int32, y = j2_L1 + 1 := ⟨_, rfl⟩
        have hv13 : iv v13 1 178 := by rw [e13]; exact iv_w (iv_add hj2_L1_6l (iv_c (x := (1 : Int32)) (k := 1) (by decide)) (by decide)) (by decide)
        have s13 : v13.toInt = j2_L1.toInt + 1 := by rw [e13, iv_addE hj2_L1_6l (iv_c (x := (1 : Int32)) (k := 1) (by decide)) (by decide)]; rfl
        refine lv_iinc (v := v13) (lv' := [(1, .int v13), (0, .ref a0)]) hx hb dX10_empties_13 hl (k := 1) rfl (by rw [e13]; rfl) (by decide) rfl (fun ls hl => ?_)
        refine lv_goto (tgt := 2) hx hb dX10_empties_16 (by decide) ?_
        exact ih v13 _ _ _ (ms_up hm (by have := s13; omega) (iv_w (c := 1) (d := 178) hv13 (by decide)).2) (iv_w hv13 (by decide)) hT hS (lv_sub hl [1, 0] rfl)
  refine lv_istore_n (lv' := [(1, .int (0 : Int32)), (0, .ref a0)]) hx hb dX10_empties_1 rfl hl (by decide) rfl (fun ls hl => ?_)
  exact J2 _ (0 : Int32) _ _ _ (Nat.lt_succ_self _) (iv_w (iv_c (x := (0 : Int32)) (k := 0) (by decide)) (by decide)) hT hS (lv_sub hl [1, 0] rfl)
set_option maxHeartbeats 4000000 in
set_option maxRecDepth 100000 in
theorem t_X10_town (l : Launch) {D : va_G} {c0 : Nat → ClassId} {Y : Nat → Option Nat} {H : Heap} (hT : TI D vwCl (tysOf c0) (RT1 true) Y H) {a0 : Nat} (ha0 : Y a0 = some 10) : Met l yX10_town (wz yX10_town cX10_town 2 (some .int)) { frames := 2, cells := 0, slots := 0, locals := 42 } (TP D vwCl (tysOf c0) H [.ref a0]) (TQi (fun x H' => TI D vwCl (tysOf c0) (RT1 true) Y H' ∧ iv x 0 0) Y) 0 0 (pA Y) := by
  refine Met.ofW (cc := cX10_town) (maxL := 2) (ret := (some .int)) (by decide) rfl ?_
  intro p e s m args below meth c s₁ B hml hv
  obtain ⟨rfl, rfl, hK⟩ := hv
  have hx := B.exec
  have hb := B.bytes
  have hr := B.returns
  have hts : ∀ w ∈ wq, w.before _ s = true := fun w h => atoms_spec (ws := wz yX10_town cX10_town 2 (some .int)) B.pre w (List.mem_cons_of_mem _ h)
  have hown : s.vm.findClass RX10 = some m.cls := findClass_of_methodNamed B.named
  have hlocks := B.notSynchronized
  obtain ⟨R, hR⟩ : ∃ R : Room, R = ({ frames := 2, cells := 0, slots := 0, locals := 42 } : Room) := ⟨_, rfl⟩
  rw [show (headSpec (wz yX10_town cX10_town 2 (some .int)) { frames := 2, cells := 0, slots := 0, locals := 42 }).room = R from hR.symm]
  refine ti_mi hx hb hr hlocks (fun Q ret => ?_)
  have hl := lv_entry [.ref a0] (n := 2) (Nat.le_of_ble_eq_true rfl)
  rw [lg_entry_eq]
  generalize (lg_sl [.ref a0] ++ List.replicate (2 - (lg_sl [.ref a0]).length) Slot.unset).toArray = ls at hl ⊢
  have hl : lv_has ls 2 [(0, .ref a0)] := hl
  refine ti_gen (P := fun H => TI D vwCl (tysOf c0) (RT1 true) Y H) (Y := Y) hT (fun H locs hT hS => ?_)
  refine lv_aload_n hx hb dX10_town_0 rfl (lv_at hl 0 rfl) ?_
  refine lv_aload_n hx hb dX10_town_1 rfl (lv_at hl 0 rfl) ?_
  refine ti_geti hx hb hts inlX10 hown hK hT ha0 rfl rfl 6 (by decide) (hts _ kw_172) (fun _ h9 => h9) rfl dX10_town_2 (fun v2 hv2 => ?_)
  refine ti_put (ty := .int) hx hb hts inlX10 tyX10 tyX10_ok nmX10 hown hK hT hS ha0 rfl rfl 8 (by decide) (hts _ kw_378) (fun _ h9 => h9) rfl rfl (by decide +kernel) rfl rfl ⟨v2, rfl, iv_w hv2 (by decide)⟩ dX10_town_5 (fun H locs hT hS => ?_)
  refine lv_aload_n hx hb dX10_town_8 rfl (lv_at hl 0 rfl) ?_
  refine lv_iconst (v := 0) hx hb dX10_town_9 (by decide) ?_
  refine ti_put (ty := .int) hx hb hts inlX10 tyX10 tyX10_ok nmX10 hown hK hT hS ha0 rfl rfl 6 (by decide) (hts _ kw_172) (fun _ h9 => h9) rfl rfl (by decide +kernel) rfl rfl ⟨(0 : Int32), rfl, iv_w (iv_c (x := (0 : Int32)) (k := 0) (by decide)) (by decide)⟩ dX10_town_10 (fun H locs hT hS => ?_)
  refine lv_aload_n hx hb dX10_town_13 rfl (lv_at hl 0 rfl) ?_
  refine lv_iconst (v := 0) hx hb dX10_town_14 (by decide) ?_
  refine ti_put (ty := .int) hx hb hts inlX10 tyX10 tyX10_ok nmX10 hown hK hT hS ha0 rfl rfl 9 (by decide) (hts _ kw_379) (fun _ h9 => h9) rfl rfl (by decide +kernel) rfl rfl ⟨(0 : Int32), rfl, iv_w (iv_c (x := (0 : Int32)) (k := 0) (by decide)) (by decide)⟩ dX10_town_15 (fun H locs hT hS => ?_)
  refine lv_aload_n hx hb dX10_town_18 rfl (lv_at hl 0 rfl) ?_
  refine lv_iconst (v := 0) hx hb dX10_town_19 (by decide) ?_
  refine ti_put (ty := .int) hx hb hts inlX10 tyX10 tyX10_ok nmX10 hown hK hT hS ha0 rfl rfl 13 (by decide) (hts _ kw_380) (fun _ h9 => h9) rfl rfl (by decide +kernel) rfl rfl ⟨(0 : Int32), rfl, iv_w (iv_c (x := (0 : Int32)) (k := 0) (by decide)) (by decide)⟩ dX10_town_20 (fun H locs hT hS => ?_)
  refine lv_aload_n hx hb dX10_town_23 rfl (lv_at hl 0 rfl) ?_
  refine lv_iconst (v := (-1)) hx hb dX10_town_24 (by decide) ?_
  refine ti_put (ty := .int) hx hb hts inlX10 tyX10 tyX10_ok nmX10 hown hK hT hS ha0 rfl rfl 14 (by decide) (hts _ kw_136) (fun _ h9 => h9) rfl rfl (by decide +kernel) rfl rfl ⟨(-1 : Int32), rfl, iv_w (iv_c (x := (-1 : Int32)) (k := (-1)) (by decide)) (by decide)⟩ dX10_town_25 (fun H locs hT hS => ?_)
  refine lv_aload_n hx hb dX10_town_28 rfl (lv_at hl 0 rfl) ?_
  refine ti_getr hx hb hts inlX10 hown hK hT ha0 rfl rfl 15 (by decide) (hts _ kw_137) (fun _ h9 => h9) rfl dX10_town_29 (fun v29 hv29 => ?_)
  refine ti_callv (va_runS (As := [.ref v29]) (rest := []) ⟨hx, hb, hml, hown, hts⟩ (t_X10_empties l hT hv29) (cwS 1 hts (good_S kw_155 kw_156 kw_5 kw_157) rfl rfl rfl (by decide +kernel) ⟨by rw [hR]; decide, by rw [hR]; decide⟩) (ti_preS hK) rfl rfl hl.1 rfl (lv_room (Nat.le_of_ble_eq_true rfl)) dX10_town_32 ⟨Nat.zero_le _, Nat.zero_le _⟩) hS (fun _ h => h) (fun H1 locs hB hS _ _ => ?_)
  have hT := hB
  generalize H1 = H at hT hS ⊢
  refine lv_aload_n hx hb dX10_town_35 rfl (lv_at hl 0 rfl) ?_
  have J39 : ∀  (H : Heap) (locs : List Loc) (ls : Array Slot), TI D vwCl (tysOf c0) (RT1 true) Y H → va_S (pA Y) s.heap H locs → lv_has ls 2 [(0, .ref a0)] → W p l e R s m ([.ref a0] : List Value).toArray below meth c H locs 0 0 Q (F0 m 39 ls []) := by
    intro  H locs ls  hT hS hl
    refine lv_aload_n hx hb dX10_town_39 rfl (lv_at hl 0 rfl) ?_
    refine ti_calli (va_runV (As := []) (rest := []) ⟨hx, hb, hml, hown, hts⟩ (t_X10_good l hT ha0) (cwV 0 hts (good_V kw_399 kw_400 kw_401 kw_5 kw_402) rfl rfl rfl (by decide +kernel) ⟨by rw [hR]; decide, by rw [hR]; decide⟩) (ti_preV hK hT ha0 rfl rfl) rfl rfl hl.1 rfl (lv_room (Nat.le_of_ble_eq_true rfl)) dX10_town_40 ⟨Nat.zero_le _, Nat.zero_le _⟩) hS (fun _ h => h) (fun v40 H1 locs hB hS _ _ => ?_)
    obtain ⟨hH, hv40⟩ := hB
    rw [hH] at hS ⊢
    have J60 : ∀  (H : Heap) (locs : List Loc) (ls : Array Slot), TI D vwCl (tysOf c0) (RT1 true) Y H → va_S (pA Y) s.heap H locs → lv_has ls 2 [(0, .ref a0)] → W p l e R s m ([.ref a0] : List Value).toArray below meth c H locs 0 0 Q (F0 m 60 ls []) := by
      intro  H locs ls  hT hS hl
      refine lv_aload_n hx hb dX10_town_60 rfl (lv_at hl 0 rfl) ?_
      refine ti_calli (va_runV (As := []) (rest := []) ⟨hx, hb, hml, hown, hts⟩ (t_X10_good l hT ha0) (cwV 0 hts (good_V kw_399 kw_400 kw_401 kw_5 kw_402) rfl rfl rfl (by decide +kernel) ⟨by rw [hR]; decide, by rw [hR]; decide⟩) (ti_preV hK hT ha0 rfl rfl) rfl rfl hl.1 rfl (lv_room (Nat.le_of_ble_eq_true rfl)) dX10_town_61 ⟨Nat.zero_le _, Nat.zero_le _⟩) hS (fun _ h => h) (fun v61 H1 locs hB hS _ _ => ?_)
      obtain ⟨hH, hv61⟩ := hB
      rw [hH] at hS ⊢
      refine lv_if_ne (tgt := 70) hx hb dX10_town_64 (by decide) (fun c64 => ?_) (fun c64 => ?_)
      · skip
        have kl0 : (0 : Int32).toInt = 0 := by decide
        have f64 := i_ne c64
        refine lv_iconst (v := 0) hx hb dX10_town_70 (by decide) ?_
        have J72 : ∀ (n : Nat) (j72_L1 : Int32) (H : Heap) (locs : List Loc) (ls : Array Slot), (178 - j72_L1.toInt).toNat < n → iv j72_L1 0 178 → TI D vwCl (tysOf c0) (RT1 true) Y H → va_S (pA Y) s.heap H locs → lv_has ls 2 [(0, .ref a0), (1, .int j72_L1)] → W p l e R s m ([.ref a0] : List Value).toArray below meth c H locs 0 0 Q (F0 m 72 ls []) := by
          intro n
          induction n with
          | zero => intro j72_L1 H locs ls hm; exact absurd hm (Nat.not_lt_zero _)
          | succ n ih =>
            intro j72_L1 H locs ls hm hj72_L1 hT hS hl
            refine lv_iload_n hx hb dX10_town_72 rfl (lv_at hl 1 rfl) ?_
            refine lv_sipush (v := 178) hx hb dX10_town_73 (by decide) ?_
            refine lv_icmp_ge (tgt := 97) hx hb dX10_town_76 (by decide) (fun c76 => ?_) (fun c76 => ?_)
            · skip
              have kl178 : (178 : Int32).toInt = 178 := by decide
              have f76 := i_le c76
              have hj72_L1_76r : iv j72_L1 178 178 := iv_ler (iv_c (x := (178 : Int32)) (k := 178) (by decide)) hj72_L1 c76 (by decide)
              refine lv_aload_n hx hb dX10_town_97 rfl (lv_at hl 0 rfl) ?_
              refine lv_lconst (v := 0) hx hb dX10_town_98 (by decide) ?_
              have kj0 : (0 : Int64).toInt = 0 := by decide
              refine ti_put (ty := .long) hx hb hts inlX10 tyX10 tyX10_ok nmX10 hown hK hT hS ha0 rfl rfl 16 (by decide) (hts _ kw_382) (fun _ h9 => h9) rfl rfl (by decide +kernel) rfl rfl ⟨(0 : Int64), rfl⟩ dX10_town_99 (fun H locs hT hS => ?_)
              refine lv_aload_n hx hb dX10_town_102 rfl (lv_at hl 0 rfl) ?_
              refine ti_getr hx hb hts inlX10 hown hK hT ha0 rfl rfl 1 (by decide) (hts _ kw_130) (fun _ h9 => h9) rfl dX10_town_103 (fun v103 hv103 => ?_)
              refine lv_iconst (v := 0) hx hb dX10_town_106 (by decide) ?_
              refine ti_iald (lo := 0) (hi := 0) hx hb (aT0 hK) hT hv103 rfl (iv_c (x := (0 : Int32)) (k := 0) (by decide)) (by decide) (one_j 0 rfl rfl (by decide) (by decide)) dX10_town_107 (fun v107 hv107 => ?_)
              exact ret _ _ _ _ _ dX10_town_108 (⟨hT, iv_w hv107 (by decide)⟩) hS
            · skip
              have kl178 : (178 : Int32).toInt = 178 := by decide
              have f76 := i_nle c76
              have hj72_L1_76l : iv j72_L1 0 177 := iv_ltl hj72_L1 (iv_c (x := (178 : Int32)) (k := 178) (by decide)) (Int32.not_le.mp c76) (by decide)
              refine lv_aload_n hx hb dX10_town_79 rfl (lv_at hl 0 rfl) ?_
              refine ti_getr hx hb hts inlX10 hown hK hT ha0 rfl rfl 1 (by decide) (hts _ kw_130) (fun _ h9 => h9) rfl dX10_town_80 (fun v80 hv80 => ?_)
              refine lv_iload_n hx hb dX10_town_83 rfl (lv_at hl 1 rfl) ?_
              refine lv_aload_n hx hb dX10_town_84 rfl (lv_at hl 0 rfl) ?_
              refine ti_getr hx hb hts inlX10 hown hK hT ha0 rfl rfl 15 (by decide) (hts _ kw_137) (fun _ h9 => h9) rfl dX10_town_85 (fun v85 hv85 => ?_)
              refine lv_iload_n hx hb dX10_town_88 rfl (lv_at hl 1 rfl) ?_
              refine ti_ialdD hx hb (aT0 hK) hT hv85 rfl hj72_L1_76l (by decide) (fun j => wf1_i true j) dX10_town_89 (fun v89 dv89 => ?_)
              refine ti_iastD hx hb (aT0 hK) hT hS hv80 rfl hj72_L1_76l (by decide) dv89 dX10_town_90 (fun H locs hT hS => ?_)
              obtain ⟨v91, e91⟩ : ∃ y : Int32, y = j72_L1 + 1 := ⟨_, rfl⟩
              have hv91 : iv v91 1 178 := by rw [e91]; exact iv_w (iv_add hj72_L1_76l (iv_c (x := (1 : Int32)) (k := 1) (by decide)) (by decide)) (by decide)
              have s91 : v91.toInt = j72_L1.toInt + 1 := by rw [e91, iv_addE hj72_L1_76l (iv_c (x := (1 : Int32)) (k := 1) (by decide)) (by decide)]; rfl
              refine lv_iinc (v := v91) (lv' := [(1, .int v91), (0, .ref a0)]) hx hb dX10_town_91 hl (k := 1) rfl (by rw [e91]; rfl) (by decide) rfl (fun ls hl => ?_)
              refine lv_goto (tgt := 72) hx hb dX10_town_94 (by decide) ?_
              exact ih v91 _ _ _ (ms_up hm (by have := s91; omega) (iv_w (c := 1) (d := 178) hv91 (by decide)).2) (iv_w hv91 (by decide)) hT hS (lv_sub hl [1, 0] rfl)
        refine lv_istore_n (lv' := [(1, .int (0 : Int32)), (0, .ref a0)]) hx hb dX10_town_71 rfl hl (by decide) rfl (fun ls hl => ?_)
        exact J72 _ (0 : Int32) _ _ _ (Nat.lt_succ_self _) (iv_w (iv_c (x := (0 : Int32)) (k := 0) (by decide)) (by decide)) hT hS (lv_sub hl [1, 0] rfl)
      · skip
        have kl0 : (0 : Int32).toInt = 0 := by decide
        have f64 := i_eq c64
        exact (iv_no (show iv v61 1 0 from iv_eql hv61 (iv_c (x := (0 : Int32)) (k := 0) (by decide)) c64 (by decide)) (by decide)).elim
    refine lv_if_eq (tgt := 60) hx hb dX10_town_43 (by decide) (fun c43 => ?_) (fun c43 => ?_)
    · skip
      have kl0 : (0 : Int32).toInt = 0 := by decide
      have f43 := i_eq c43
      exact (iv_no (show iv v40 1 0 from iv_eql hv40 (iv_c (x := (0 : Int32)) (k := 0) (by decide)) c43 (by decide)) (by decide)).elim
    · skip
      have kl0 : (0 : Int32).toInt = 0 := by decide
      have f43 := i_ne c43
      refine lv_aload_n hx hb dX10_town_46 rfl (lv_at hl 0 rfl) ?_
      refine ti_geti hx hb hts inlX10 hown hK hT ha0 rfl rfl 11 (by decide) (hts _ kw_381) (fun _ h9 => h9) rfl dX10_town_47 (fun v47 hv47 => ?_)
      refine lv_if_eq (tgt := 60) hx hb dX10_town_50 (by decide) (fun c50 => ?_) (fun c50 => ?_)
      · skip
        have f50 := i_eq c50
        exact J60  _ _ _   hT hS (lv_sub hl [0] rfl)
      · skip
        have f50 := i_ne c50
        exact (iv_no (show iv v47 1 (-1) from iv_nel hv47 (iv_c (x := (0 : Int32)) (k := 0) (by decide)) c50 (by decide)) (by decide)).elim
  refine ti_callv (va_runV (As := []) (rest := []) ⟨hx, hb, hml, hown, hts⟩ (t_X10_advance l hT ha0) (cwV 0 hts (good_V kw_383 kw_384 kw_385 kw_5 kw_386) rfl rfl rfl (by decide +kernel) ⟨by rw [hR]; decide, by rw [hR]; decide⟩) (ti_preV hK hT ha0 rfl rfl) rfl rfl hl.1 rfl (lv_room (Nat.le_of_ble_eq_true rfl)) dX10_town_36 ⟨Nat.zero_le _, Nat.zero_le _⟩) hS (fun _ h => h) (fun H1 locs hB hS _ _ => ?_)
  have hT := hB
  generalize H1 = H at hT hS ⊢
  exact J39  _ _ _   hT hS (lv_sub hl [0] rfl)
set_option maxHeartbeats 4000000 in
set_option maxRecDepth 100000 in
theorem t_X10_feed (l : Launch) {D : va_G} {c0 : Nat → ClassId} {Y : Nat → Option Nat} {H : Heap} (hT : TI D vwCl (tysOf c0) (RT1 false) Y H) {a0 : Nat} (ha0 : Y a0 = some 10) {x1 : Int32} (hx1 : iv x1 (-2147483648) 2147483647) {x2 : Int32} (hx2 : iv x2 (-2147483648) 2147483647) {x3 : Int32} (hx3 : iv x3 (-2147483648) 2147483647) {x4 : Int32} (hx4 : iv x4 (-2147483648) 2147483647) {x5 : Int32} (hx5 : iv x5 (-2147483648) 2147483647) : Met l yX10_feed (wz yX10_feed cX10_feed 7 (some .int)) { frames := 0, cells := 0, slots := 0, locals := 0 } (TP D vwCl (tysOf c0) H [.ref a0, .int x1, .int x2, .int x3, .int x4, .int x5]) (TQi (fun x H' => iv x 20 20) Y) 0 0 (pA Y) := by
  refine Met.ofW (cc := cX10_feed) (maxL := 7) (ret := (some .int)) (by decide) rfl ?_
  intro p e s m args below meth c s₁ B hml hv
  obtain ⟨rfl, rfl, hK⟩ := hv
  have hx := B.exec
  have hb := B.bytes
  have hr := B.returns
  have hts : ∀ w ∈ wq, w.before _ s = true := fun w h => atoms_spec (ws := wz yX10_feed cX10_feed 7 (some .int)) B.pre w (List.mem_cons_of_mem _ h)
  have hown : s.vm.findClass RX10 = some m.cls := findClass_of_methodNamed B.named
  have hlocks := B.notSynchronized
  obtain ⟨R, hR⟩ : ∃ R : Room, R = ({ frames := 0, cells := 0, slots := 0, locals := 0 } : Room) := ⟨_, rfl⟩
  rw [show (headSpec (wz yX10_feed cX10_feed 7 (some .int)) { frames := 0, cells := 0, slots := 0, locals := 0 }).room = R from hR.symm]
  refine ti_mi hx hb hr hlocks (fun Q ret => ?_)
  have hl := lv_entry [.ref a0, .int x1, .int x2, .int x3, .int x4, .int x5] (n := 7) (Nat.le_of_ble_eq_true rfl)
  rw [lg_entry_eq]
  generalize (lg_sl [.ref a0, .int x1, .int x2, .int x3, .int x4, .int x5] ++ List.replicate (7 - (lg_sl [.ref a0, .int x1, .int x2, .int x3, .int x4, .int x5]).length) Slot.unset).toArray = ls at hl ⊢
  have hl : lv_has ls 7 [(0, .ref a0), (1, .int x1), (2, .int x2), (3, .int x3), (4, .int x4), (5, .int x5)] := hl
  refine ti_gen (P := fun H => TI D vwCl (tysOf c0) (RT1 false) Y H) (Y := Y) hT (fun H locs hT hS => ?_)
  refine lv_aload_n hx hb dX10_feed_0 rfl (lv_at hl 0 rfl) ?_
  refine ti_geti hx hb hts inlX10 hown hK hT ha0 rfl rfl 6 (by decide) (hts _ kw_172) (fun _ h9 => h9) rfl dX10_feed_1 (fun v1 hv1 => ?_)
  refine lv_bipush (v := 20) hx hb dX10_feed_4 (by decide) ?_
  refine lv_iadd hx hb dX10_feed_6 ?_
  refine lv_topi (fun v6 e6 => ?_)
  have hv6 : iv v6 20 20 := by rw [e6]; exact iv_w (iv_add hv1 (iv_c (x := (20 : Int32)) (k := 20) (by decide)) (by decide)) (by decide)
  have s6 : v6.toInt = v1.toInt + 20 := by rw [e6, iv_addE hv1 (iv_c (x := (20 : Int32)) (k := 20) (by decide)) (by decide)]; rfl
  refine lv_sipush (v := 1600) hx hb dX10_feed_7 (by decide) ?_
  refine lv_icmp_le (tgt := 15) hx hb dX10_feed_10 (by decide) (fun c10 => ?_) (fun c10 => ?_)
  · skip
    have kl1600 : (1600 : Int32).toInt = 1600 := by decide
    have f10 := i_le c10
    refine lv_aload_n hx hb dX10_feed_15 rfl (lv_at hl 0 rfl) ?_
    refine ti_getr hx hb hts inlX10 hown hK hT ha0 rfl rfl 7 (by decide) (hts _ kw_135) (fun _ h9 => h9) rfl dX10_feed_16 (fun v16 hv16 => ?_)
    refine lv_iconst (v := 0) hx hb dX10_feed_19 (by decide) ?_
    refine lv_iload_n hx hb dX10_feed_20 rfl (lv_at hl 1 rfl) ?_
    refine ti_iast hx hb (aT0 hK) hT hS hv16 rfl (iv_c (x := (0 : Int32)) (k := 0) (by decide)) (by decide) (fun _ _ _ => ⟨_, _, rfl, by decide, by decide⟩) hx1 dX10_feed_21 (fun H locs hT hS => ?_)
    refine lv_aload_n hx hb dX10_feed_22 rfl (lv_at hl 0 rfl) ?_
    refine ti_getr hx hb hts inlX10 hown hK hT ha0 rfl rfl 7 (by decide) (hts _ kw_135) (fun _ h9 => h9) rfl dX10_feed_23 (fun v23 hv23 => ?_)
    refine lv_iconst (v := 1) hx hb dX10_feed_26 (by decide) ?_
    refine lv_iload_n hx hb dX10_feed_27 rfl (lv_at hl 2 rfl) ?_
    refine ti_iast hx hb (aT0 hK) hT hS hv23 rfl (iv_c (x := (1 : Int32)) (k := 1) (by decide)) (by decide) (fun _ _ _ => ⟨_, _, rfl, by decide, by decide⟩) hx2 dX10_feed_28 (fun H locs hT hS => ?_)
    refine lv_aload_n hx hb dX10_feed_29 rfl (lv_at hl 0 rfl) ?_
    refine ti_getr hx hb hts inlX10 hown hK hT ha0 rfl rfl 7 (by decide) (hts _ kw_135) (fun _ h9 => h9) rfl dX10_feed_30 (fun v30 hv30 => ?_)
    refine lv_iconst (v := 2) hx hb dX10_feed_33 (by decide) ?_
    refine lv_iload_n hx hb dX10_feed_34 rfl (lv_at hl 3 rfl) ?_
    refine ti_iast hx hb (aT0 hK) hT hS hv30 rfl (iv_c (x := (2 : Int32)) (k := 2) (by decide)) (by decide) (fun _ _ _ => ⟨_, _, rfl, by decide, by decide⟩) hx3 dX10_feed_35 (fun H locs hT hS => ?_)
    refine lv_aload_n hx hb dX10_feed_36 rfl (lv_at hl 0 rfl) ?_
    refine ti_getr hx hb hts inlX10 hown hK hT ha0 rfl rfl 7 (by decide) (hts _ kw_135) (fun _ h9 => h9) rfl dX10_feed_37 (fun v37 hv37 => ?_)
    refine lv_iconst (v := 3) hx hb dX10_feed_40 (by decide) ?_
    refine lv_iload hx hb dX10_feed_41 (lv_at hl 4 rfl) ?_
    refine ti_iast hx hb (aT0 hK) hT hS hv37 rfl (iv_c (x := (3 : Int32)) (k := 3) (by decide)) (by decide) (fun _ _ _ => ⟨_, _, rfl, by decide, by decide⟩) hx4 dX10_feed_43 (fun H locs hT hS => ?_)
    refine lv_aload_n hx hb dX10_feed_44 rfl (lv_at hl 0 rfl) ?_
    refine ti_getr hx hb hts inlX10 hown hK hT ha0 rfl rfl 7 (by decide) (hts _ kw_135) (fun _ h9 => h9) rfl dX10_feed_45 (fun v45 hv45 => ?_)
    refine lv_iconst (v := 4) hx hb dX10_feed_48 (by decide) ?_
    refine lv_iload hx hb dX10_feed_49 (lv_at hl 5 rfl) ?_
    refine ti_iast hx hb (aT0 hK) hT hS hv45 rfl (iv_c (x := (4 : Int32)) (k := 4) (by decide)) (by decide) (fun _ _ _ => ⟨_, _, rfl, by decide, by decide⟩) hx5 dX10_feed_51 (fun H locs hT hS => ?_)
    refine lv_iconst (v := 0) hx hb dX10_feed_52 (by decide) ?_
    have J55 : ∀ (n : Nat) (j55_L6 : Int32) (H : Heap) (locs : List Loc) (ls : Array Slot), (20 - j55_L6.toInt).toNat < n → iv j55_L6 0 20 → TI D vwCl (tysOf c0) (RT1 false) Y H → va_S (pA Y) s.heap H locs → lv_has ls 7 [(0, .ref a0), (1, .int x1), (2, .int x2), (3, .int x3), (4, .int x4), (5, .int x5), (6, .int j55_L6)] → W p l e R s m ([.ref a0, .int x1, .int x2, .int x3, .int x4, .int x5] : List Value).toArray below meth c H locs 0 0 Q (F0 m 55 ls []) := by
      intro n
      induction n with
      | zero => intro j55_L6 H locs ls hm; exact absurd hm (Nat.not_lt_zero _)
      | succ n ih =>
        intro j55_L6 H locs ls hm hj55_L6 hT hS hl
        refine lv_iload hx hb dX10_feed_55 (lv_at hl 6 rfl) ?_
        refine lv_bipush (v := 20) hx hb dX10_feed_57 (by decide) ?_
        refine lv_icmp_ge (tgt := 101) hx hb dX10_feed_59 (by decide) (fun c59 => ?_) (fun c59 => ?_)
        · skip
          have kl20 : (20 : Int32).toInt = 20 := by decide
          have f59 := i_le c59
          have hj55_L6_59r : iv j55_L6 20 20 := iv_ler (iv_c (x := (20 : Int32)) (k := 20) (by decide)) hj55_L6 c59 (by decide)
          refine lv_aload_n hx hb dX10_feed_101 rfl (lv_at hl 0 rfl) ?_
          refine lv_dup hx hb dX10_feed_102 rfl ?_
          refine ti_geti hx hb hts inlX10 hown hK hT ha0 rfl rfl 6 (by decide) (hts _ kw_172) (fun _ h9 => h9) rfl dX10_feed_103 (fun v103 hv103 => ?_)
          refine lv_bipush (v := 20) hx hb dX10_feed_106 (by decide) ?_
          refine lv_iadd hx hb dX10_feed_108 ?_
          refine lv_topi (fun v108 e108 => ?_)
          have hv108 : iv v108 20 20 := by rw [e108]; exact iv_w (iv_add hv103 (iv_c (x := (20 : Int32)) (k := 20) (by decide)) (by decide)) (by decide)
          have s108 : v108.toInt = v103.toInt + 20 := by rw [e108, iv_addE hv103 (iv_c (x := (20 : Int32)) (k := 20) (by decide)) (by decide)]; rfl
          obtain ⟨fs, hat, hln, -⟩ := ti_obj hT ha0 rfl
          have hln : fs.length = 38 := hln
          refine va_put (D := D) (ci := 10) (v := .int v108) (ty := .int) (C := RX10) (T := TX10) (N := 38) hx hb hts inlX10 tyX10 tyX10_ok nmX10 hown hK (va_P1 hat) (va_D1A ⟨_, ha0⟩) hS 0 rfl rfl 6 (by decide) (hts _ kw_172) (fun _ h9 => h9) rfl (by decide +kernel) rfl rfl (by rw [hln]; decide) dX10_feed_109 (fun H locs hP hD hS => ?_)
          refine lv_aload_n hx hb dX10_feed_112 rfl (lv_at hl 0 rfl) ?_
          refine va_get (ci := 10) (v := .int v108) (C := RX10) (T := TX10) (N := 38) hx hb hts inlX10 hown hK hP 0 rfl rfl 6 (by decide) (hts _ kw_172) (fun _ h9 => h9) (List.getElem?_set_self (by rw [hln]; decide)) dX10_feed_113 ?_
          exact ret _ _ _ _ _ dX10_feed_116 (iv_w hv108 (by decide)) hS
        · skip
          have kl20 : (20 : Int32).toInt = 20 := by decide
          have f59 := i_nle c59
          have hj55_L6_59l : iv j55_L6 0 19 := iv_ltl hj55_L6 (iv_c (x := (20 : Int32)) (k := 20) (by decide)) (Int32.not_le.mp c59) (by decide)
          refine lv_aload_n hx hb dX10_feed_62 rfl (lv_at hl 0 rfl) ?_
          refine ti_getr hx hb hts inlX10 hown hK hT ha0 rfl rfl 5 (by decide) (hts _ kw_134) (fun _ h9 => h9) rfl dX10_feed_63 (fun v63 hv63 => ?_)
          refine lv_aload_n hx hb dX10_feed_66 rfl (lv_at hl 0 rfl) ?_
          refine ti_geti hx hb hts inlX10 hown hK hT ha0 rfl rfl 6 (by decide) (hts _ kw_172) (fun _ h9 => h9) rfl dX10_feed_67 (fun v67 hv67 => ?_)
          refine lv_iload hx hb dX10_feed_70 (lv_at hl 6 rfl) ?_
          refine lv_iadd hx hb dX10_feed_72 ?_
          refine lv_topi (fun v72 e72 => ?_)
          have hv72 : iv v72 0 19 := by rw [e72]; exact iv_w (iv_add hv67 hj55_L6_59l (by decide)) (by decide)
          have s72 : v72.toInt = v67.toInt + j55_L6.toInt := by rw [e72]; exact iv_addE hv67 hj55_L6_59l (by decide)
          refine lv_aload_n hx hb dX10_feed_73 rfl (lv_at hl 0 rfl) ?_
          refine ti_getr hx hb hts inlX10 hown hK hT ha0 rfl rfl 7 (by decide) (hts _ kw_135) (fun _ h9 => h9) rfl dX10_feed_74 (fun v74 hv74 => ?_)
          refine lv_iload hx hb dX10_feed_77 (lv_at hl 6 rfl) ?_
          refine lv_iconst (v := 4) hx hb dX10_feed_79 (by decide) ?_
          refine lv_idiv hx hb dX10_feed_80 (iv_ne0 (iv_c (x := (4 : Int32)) (k := 4) (by decide)) (by decide)) ?_
          refine lv_topi (fun v80 e80 => ?_)
          have hv80 : iv v80 0 4 := by rw [e80]; exact iv_w (iv_divk hj55_L6_59l (iv_c (x := (4 : Int32)) (k := 4) (by decide)) (by decide)) (by decide)
          refine ti_iald (lo := (-2147483648)) (hi := 2147483647) hx hb (aT0 hK) hT hv74 rfl hv80 (by decide) (fun _ _ _ => ⟨_, _, rfl, by decide, by decide⟩) dX10_feed_81 (fun v81 hv81 => ?_)
          refine lv_bipush (v := 24) hx hb dX10_feed_82 (by decide) ?_
          refine lv_bipush (v := 8) hx hb dX10_feed_84 (by decide) ?_
          refine lv_iload hx hb dX10_feed_86 (lv_at hl 6 rfl) ?_
          refine lv_iconst (v := 4) hx hb dX10_feed_88 (by decide) ?_
          refine lv_irem hx hb dX10_feed_89 (iv_ne0 (iv_c (x := (4 : Int32)) (k := 4) (by decide)) (by decide)) ?_
          refine lv_topi (fun v89 e89 => ?_)
          have hv89 : iv v89 0 3 := by rw [e89]; exact iv_rem hj55_L6_59l (iv_c (x := (4 : Int32)) (k := 4) (by decide)) (by decide)
          refine lv_imul hx hb dX10_feed_90 ?_
          refine lv_topi (fun v90 e90 => ?_)
          have hv90 : iv v90 0 24 := by rw [e90]; exact iv_mul (iv_c (x := (8 : Int32)) (k := 8) (by decide)) hv89 (by decide)
          refine lv_isub hx hb dX10_feed_91 ?_
          refine lv_topi (fun v91 e91 => ?_)
          have hv91 : iv v91 0 24 := by rw [e91]; exact iv_w (iv_sub (iv_c (x := (24 : Int32)) (k := 24) (by decide)) hv90 (by decide)) (by decide)
          have s91 : v91.toInt = (24 : Int32).toInt - v90.toInt := by rw [e91]; exact iv_subE (iv_c (x := (24 : Int32)) (k := 24) (by decide)) hv90 (by decide)
          refine lv_ishr hx hb dX10_feed_92 ?_
          refine lv_topi (fun v92 e92 => ?_)
          have hv92 : iv v92 (-2147483648) 2147483647 := iv_top _
          refine lv_i2b hx hb dX10_feed_93 rfl ?_
          refine lv_topi (fun v93 e93 => ?_)
          have hv93 : iv v93 (-128) 127 := by rw [e93]; exact iv_byte _
          refine ti_bast hx hb (aT1 hK) hT hS hv63 rfl hv72 (by decide) (fun _ _ _ => rfl)  dX10_feed_94 (fun H locs hT hS => ?_)
          obtain ⟨v95, e95⟩ : ∃ y : Int32, y = j55_L6 + 1 := ⟨_, rfl⟩
          have hv95 : iv v95 1 20 := by rw [e95]; exact iv_w (iv_add hj55_L6_59l (iv_c (x := (1 : Int32)) (k := 1) (by decide)) (by decide)) (by decide)
          have s95 : v95.toInt = j55_L6.toInt + 1 := by rw [e95, iv_addE hj55_L6_59l (iv_c (x := (1 : Int32)) (k := 1) (by decide)) (by decide)]; rfl
          refine lv_iinc (v := v95) (lv' := [(6, .int v95), (0, .ref a0), (1, .int x1), (2, .int x2), (3, .int x3), (4, .int x4), (5, .int x5)]) hx hb dX10_feed_95 hl (k := 6) rfl (by rw [e95]; rfl) (by decide) rfl (fun ls hl => ?_)
          refine lv_goto (tgt := 55) hx hb dX10_feed_98 (by decide) ?_
          exact ih v95 _ _ _ (ms_up hm (by have := s95; omega) (iv_w (c := 1) (d := 20) hv95 (by decide)).2) (iv_w hv95 (by decide)) hT hS (lv_sub hl [1, 2, 3, 4, 5, 6, 0] rfl)
    refine lv_istore (lv' := [(6, .int (0 : Int32)), (0, .ref a0), (1, .int x1), (2, .int x2), (3, .int x3), (4, .int x4), (5, .int x5)]) hx hb dX10_feed_53 hl (by decide) rfl (fun ls hl => ?_)
    exact J55 _ (0 : Int32) _ _ _ (Nat.lt_succ_self _) (iv_w (iv_c (x := (0 : Int32)) (k := 0) (by decide)) (by decide)) hT hS (lv_sub hl [1, 2, 3, 4, 5, 6, 0] rfl)
  · skip
    have kl1600 : (1600 : Int32).toInt = 1600 := by decide
    have f10 := i_nle c10
    exact (iv_no (show iv (1600 : Int32) 1600 19 from iv_ltl (iv_c (x := (1600 : Int32)) (k := 1600) (by decide)) hv6 (Int32.not_le.mp c10) (by decide)) (by decide)).elim
