set_option maxHeartbeats 4000000 in
set_option maxRecDepth 100000 in
theorem t_X9_restless (l : Launch) {D : va_G} {c0 : Nat → ClassId} {Y : Nat → Option Nat} {H : Heap} (hT : TI D vwCl (tysOf c0) (RT1 false) Y H) {a0 : Nat} (ha0 : Y a0 = some 9) : Met l yX9_restless (wz yX9_restless cX9_restless 1 (some .int)) { frames := 0, cells := 0, slots := 0, locals := 0 } (TP D vwCl (tysOf c0) H [.ref a0]) (TQi (fun x H' => H' = H ∧ iv x (-2) (-2)) Y) 0 0 (pA Y) := by
  refine Met.ofW (cc := cX9_restless) (maxL := 1) (ret := (some .int)) (by decide) rfl ?_
  intro p e s m args below meth c s₁ B hml hv
  obtain ⟨rfl, rfl, hK⟩ := hv
  have hx := B.exec
  have hb := B.bytes
  have hr := B.returns
  have hts : ∀ w ∈ wq, w.before _ s = true := fun w h => atoms_spec (ws := wz yX9_restless cX9_restless 1 (some .int)) B.pre w (List.mem_cons_of_mem _ h)
  have hown : s.vm.findClass RX9 = some m.cls := findClass_of_methodNamed B.named
  have hlocks := B.notSynchronized
  obtain ⟨R, hR⟩ : ∃ R : Room, R = ({ frames := 0, cells := 0, slots := 0, locals := 0 } : Room) := ⟨_, rfl⟩
  rw [show (headSpec (wz yX9_restless cX9_restless 1 (some .int)) { frames := 0, cells := 0, slots := 0, locals := 0 }).room = R from hR.symm]
  refine ti_mi hx hb hr hlocks (fun Q ret => ?_)
  have hl := lv_entry [.ref a0] (n := 1) (Nat.le_of_ble_eq_true rfl)
  rw [lg_entry_eq]
  generalize (lg_sl [.ref a0] ++ List.replicate (1 - (lg_sl [.ref a0]).length) Slot.unset).toArray = ls at hl ⊢
  have hl : lv_has ls 1 [(0, .ref a0)] := hl
  have hS : va_S (pA Y) s.heap s.heap [] := va_S.rf
  refine lv_aload_n hx hb dX9_restless_0 rfl (lv_at hl 0 rfl) ?_
  refine ti_getr hx hb hts inlX9 hown hK hT ha0 rfl rfl 1 (by decide) (hts _ kw_20) (fun _ h9 => h9) rfl dX9_restless_1 (fun v1 hv1 => ?_)
  refine ti_geti hx hb hts inlX7 hown hK hT hv1 rfl rfl 1 (by decide) (hts _ kw_480) (fun _ h9 => h9) rfl dX9_restless_4 (fun v4 hv4 => ?_)
  refine lv_if_ne (tgt := 15) hx hb dX9_restless_7 (by decide) (fun c7 => ?_) (fun c7 => ?_)
  · skip
    have kl0 : (0 : Int32).toInt = 0 := by decide
    have f7 := i_ne c7
    exact (iv_no (show iv v4 1 (-1) from iv_nel hv4 (iv_c (x := (0 : Int32)) (k := 0) (by decide)) c7 (by decide)) (by decide)).elim
  · skip
    have kl0 : (0 : Int32).toInt = 0 := by decide
    have f7 := i_eq c7
    refine lv_bipush (v := (-2)) hx hb dX9_restless_10 (by decide) ?_
    refine lv_goto (tgt := 23) hx hb dX9_restless_12 (by decide) ?_
    exact ret _ _ _ _ _ dX9_restless_23 (⟨rfl, iv_w (iv_c (x := (-2 : Int32)) (k := (-2)) (by decide)) (by decide)⟩) hS
set_option maxHeartbeats 4000000 in
set_option maxRecDepth 100000 in
theorem t_X9_rests (l : Launch) {D : va_G} {c0 : Nat → ClassId} {Y : Nat → Option Nat} {H : Heap} (hT : TI D vwCl (tysOf c0) (RT1 false) Y H) {a0 : Nat} (ha0 : Y a0 = some 9) {x1 : Int32} (hx1 : iv x1 (-2147483648) 2147483647) : Met l yX9_rests (wz yX9_rests cX9_rests 9 (some .int)) { frames := 0, cells := 0, slots := 0, locals := 0 } (TP D vwCl (tysOf c0) H [.ref a0, .int x1]) (TQi (fun x H' => H' = H ∧ iv x (-2) (-2)) Y) 0 0 (pA Y) := by
  refine Met.ofW (cc := cX9_rests) (maxL := 9) (ret := (some .int)) (by decide) rfl ?_
  intro p e s m args below meth c s₁ B hml hv
  obtain ⟨rfl, rfl, hK⟩ := hv
  have hx := B.exec
  have hb := B.bytes
  have hr := B.returns
  have hts : ∀ w ∈ wq, w.before _ s = true := fun w h => atoms_spec (ws := wz yX9_rests cX9_rests 9 (some .int)) B.pre w (List.mem_cons_of_mem _ h)
  have hown : s.vm.findClass RX9 = some m.cls := findClass_of_methodNamed B.named
  have hlocks := B.notSynchronized
  obtain ⟨R, hR⟩ : ∃ R : Room, R = ({ frames := 0, cells := 0, slots := 0, locals := 0 } : Room) := ⟨_, rfl⟩
  rw [show (headSpec (wz yX9_rests cX9_rests 9 (some .int)) { frames := 0, cells := 0, slots := 0, locals := 0 }).room = R from hR.symm]
  refine ti_mi hx hb hr hlocks (fun Q ret => ?_)
  have hl := lv_entry [.ref a0, .int x1] (n := 9) (Nat.le_of_ble_eq_true rfl)
  rw [lg_entry_eq]
  generalize (lg_sl [.ref a0, .int x1] ++ List.replicate (9 - (lg_sl [.ref a0, .int x1]).length) Slot.unset).toArray = ls at hl ⊢
  have hl : lv_has ls 9 [(0, .ref a0), (1, .int x1)] := hl
  have hS : va_S (pA Y) s.heap s.heap [] := va_S.rf
  refine lv_iload_n hx hb dX9_rests_0 rfl (lv_at hl 1 rfl) ?_
  refine lv_iconst (v := 1) hx hb dX9_rests_1 (by decide) ?_
  refine lv_icmp_lt (tgt := 33) hx hb dX9_rests_2 (by decide) (fun c2 => ?_) (fun c2 => ?_)
  · skip
    have kl1 : (1 : Int32).toInt = 1 := by decide
    have f2 := i_lt c2
    have hx1_2l : iv x1 (-2147483648) 0 := iv_ltl hx1 (iv_c (x := (1 : Int32)) (k := 1) (by decide)) c2 (by decide)
    refine lv_bipush (v := (-2)) hx hb dX9_rests_33 (by decide) ?_
    exact ret _ _ _ _ _ dX9_rests_35 (⟨rfl, iv_w (iv_c (x := (-2 : Int32)) (k := (-2)) (by decide)) (by decide)⟩) hS
  · skip
    have kl1 : (1 : Int32).toInt = 1 := by decide
    have f2 := i_nlt c2
    have hx1_2r : iv x1 1 2147483647 := iv_ler (iv_c (x := (1 : Int32)) (k := 1) (by decide)) hx1 (Int32.not_lt.mp c2) (by decide)
    refine lv_iload_n hx hb dX9_rests_5 rfl (lv_at hl 1 rfl) ?_
    refine lv_bipush (v := 6) hx hb dX9_rests_6 (by decide) ?_
    refine lv_icmp_gt (tgt := 33) hx hb dX9_rests_8 (by decide) (fun c8 => ?_) (fun c8 => ?_)
    · skip
      have kl6 : (6 : Int32).toInt = 6 := by decide
      have f8 := i_lt c8
      have hx1_8r : iv x1 7 2147483647 := iv_ltr (iv_c (x := (6 : Int32)) (k := 6) (by decide)) hx1_2r c8 (by decide)
      refine lv_bipush (v := (-2)) hx hb dX9_rests_33 (by decide) ?_
      exact ret _ _ _ _ _ dX9_rests_35 (⟨rfl, iv_w (iv_c (x := (-2 : Int32)) (k := (-2)) (by decide)) (by decide)⟩) hS
    · skip
      have kl6 : (6 : Int32).toInt = 6 := by decide
      have f8 := i_nlt c8
      have hx1_8l : iv x1 1 6 := iv_lel hx1_2r (iv_c (x := (6 : Int32)) (k := 6) (by decide)) (Int32.not_lt.mp c8) (by decide)
      refine lv_aload_n hx hb dX9_rests_11 rfl (lv_at hl 0 rfl) ?_
      refine ti_getr hx hb hts inlX9 hown hK hT ha0 rfl rfl 1 (by decide) (hts _ kw_20) (fun _ h9 => h9) rfl dX9_rests_12 (fun v12 hv12 => ?_)
      refine ti_geti hx hb hts inlX7 hown hK hT hv12 rfl rfl 1 (by decide) (hts _ kw_480) (fun _ h9 => h9) rfl dX9_rests_15 (fun v15 hv15 => ?_)
      refine lv_iconst (v := 1) hx hb dX9_rests_18 (by decide) ?_
      refine lv_icmp_lt (tgt := 33) hx hb dX9_rests_19 (by decide) (fun c19 => ?_) (fun c19 => ?_)
      · skip
        have f19 := i_lt c19
        refine lv_bipush (v := (-2)) hx hb dX9_rests_33 (by decide) ?_
        exact ret _ _ _ _ _ dX9_rests_35 (⟨rfl, iv_w (iv_c (x := (-2 : Int32)) (k := (-2)) (by decide)) (by decide)⟩) hS
      · skip
        have f19 := i_nlt c19
        exact (iv_no (show iv (1 : Int32) 1 0 from iv_lel (iv_c (x := (1 : Int32)) (k := 1) (by decide)) hv15 (Int32.not_lt.mp c19) (by decide)) (by decide)).elim
set_option maxHeartbeats 4000000 in
set_option maxRecDepth 100000 in
theorem t_X9_total (l : Launch) {D : va_G} {c0 : Nat → ClassId} {Y : Nat → Option Nat} {H : Heap} (hT : TI D vwCl (tysOf c0) (RT1 false) Y H) {a0 : Nat} (ha0 : Y a0 = some 9) {x1 : Int32} (hx1 : iv x1 (-2147483648) 2147483647) {x2 : Int32} (hx2 : iv x2 (-2147483648) 2147483647) {x3 : Int32} (hx3 : iv x3 (-2147483648) 2147483647) : Met l yX9_total (wz yX9_total cX9_total 4 (some .int)) { frames := 1, cells := 0, slots := 0, locals := 22 } (TP D vwCl (tysOf c0) H [.ref a0, .int x1, .int x2, .int x3]) (TQi (fun x H' => H' = H ∧ iv x (-2000000000) (-2000000000)) Y) 0 0 (pA Y) := by
  refine Met.ofW (cc := cX9_total) (maxL := 4) (ret := (some .int)) (by decide) rfl ?_
  intro p e s m args below meth c s₁ B hml hv
  obtain ⟨rfl, rfl, hK⟩ := hv
  have hx := B.exec
  have hb := B.bytes
  have hr := B.returns
  have hts : ∀ w ∈ wq, w.before _ s = true := fun w h => atoms_spec (ws := wz yX9_total cX9_total 4 (some .int)) B.pre w (List.mem_cons_of_mem _ h)
  have hown : s.vm.findClass RX9 = some m.cls := findClass_of_methodNamed B.named
  have hlocks := B.notSynchronized
  obtain ⟨R, hR⟩ : ∃ R : Room, R = ({ frames := 1, cells := 0, slots := 0, locals := 22 } : Room) := ⟨_, rfl⟩
  rw [show (headSpec (wz yX9_total cX9_total 4 (some .int)) { frames := 1, cells := 0, slots := 0, locals := 22 }).room = R from hR.symm]
  refine ti_mi hx hb hr hlocks (fun Q ret => ?_)
  have hl := lv_entry [.ref a0, .int x1, .int x2, .int x3] (n := 4) (Nat.le_of_ble_eq_true rfl)
  rw [lg_entry_eq]
  generalize (lg_sl [.ref a0, .int x1, .int x2, .int x3] ++ List.replicate (4 - (lg_sl [.ref a0, .int x1, .int x2, .int x3]).length) Slot.unset).toArray = ls at hl ⊢
  have hl : lv_has ls 4 [(0, .ref a0), (1, .int x1), (2, .int x2), (3, .int x3)] := hl
  have hS : va_S (pA Y) s.heap s.heap [] := va_S.rf
  refine lv_aload_n hx hb dX9_total_0 rfl (lv_at hl 0 rfl) ?_
  refine lv_iload_n hx hb dX9_total_1 rfl (lv_at hl 1 rfl) ?_
  refine lv_i2l hx hb dX9_total_2 rfl ?_
  refine lv_topl (fun v2 e2 => ?_)
  have hv2 : jv v2 (-2147483648) 2147483647 := by rw [e2]; exact jv_i hx1
  have t2 : v2.toInt = x1.toInt := by rw [e2]; exact jv_e _
  refine ti_calli (va_runV (As := [.long v2]) (rest := []) ⟨hx, hb, hml, hown, hts⟩ (t_X9_isPerson l hT ha0 (jv_w hv2 (by decide))) (cwV 1 hts (good_V kw_476 kw_477 kw_478 kw_2 kw_479) rfl rfl rfl (by decide +kernel) ⟨by rw [hR]; decide, by rw [hR]; decide⟩) (ti_preV hK hT ha0 rfl rfl) rfl rfl hl.1 rfl (lv_room (Nat.le_of_ble_eq_true rfl)) dX9_total_3 ⟨Nat.zero_le _, Nat.zero_le _⟩) hS (fun _ h => h) (fun v3 H1 locs hB hS _ _ => ?_)
  obtain ⟨hH, hv3⟩ := hB
  rw [hH] at hS ⊢
  refine lv_if_eq (tgt := 34) hx hb dX9_total_6 (by decide) (fun c6 => ?_) (fun c6 => ?_)
  · skip
    have kl0 : (0 : Int32).toInt = 0 := by decide
    have f6 := i_eq c6
    refine lv_ldc (v := (-2000000000)) hx hb hown (hts _ kw_1003) dX9_total_34 ?_
    exact ret _ _ _ _ _ dX9_total_36 (⟨rfl, iv_w (iv_c (x := (-2000000000 : Int32)) (k := (-2000000000)) (by decide)) (by decide)⟩) hS
  · skip
    have kl0 : (0 : Int32).toInt = 0 := by decide
    have f6 := i_ne c6
    exact (iv_no (show iv v3 1 (-1) from iv_nel hv3 (iv_c (x := (0 : Int32)) (k := 0) (by decide)) c6 (by decide)) (by decide)).elim
set_option maxHeartbeats 4000000 in
set_option maxRecDepth 100000 in
theorem t_X9_way (l : Launch) {D : va_G} {c0 : Nat → ClassId} {Y : Nat → Option Nat} {H : Heap} (hT : TI D vwCl (tysOf c0) (RT1 false) Y H) {a0 : Nat} (ha0 : Y a0 = some 9) {x1 : Int32} (hx1 : iv x1 (-2147483648) 2147483647) {x2 : Int32} (hx2 : iv x2 (-2147483648) 2147483647) : Met l yX9_way (wz yX9_way cX9_way 7 (some .int)) { frames := 1, cells := 0, slots := 0, locals := 22 } (TP D vwCl (tysOf c0) H [.ref a0, .int x1, .int x2]) (TQi (fun x H' => H' = H ∧ iv x (-2) (-2)) Y) 0 0 (pA Y) := by
  refine Met.ofW (cc := cX9_way) (maxL := 7) (ret := (some .int)) (by decide) rfl ?_
  intro p e s m args below meth c s₁ B hml hv
  obtain ⟨rfl, rfl, hK⟩ := hv
  have hx := B.exec
  have hb := B.bytes
  have hr := B.returns
  have hts : ∀ w ∈ wq, w.before _ s = true := fun w h => atoms_spec (ws := wz yX9_way cX9_way 7 (some .int)) B.pre w (List.mem_cons_of_mem _ h)
  have hown : s.vm.findClass RX9 = some m.cls := findClass_of_methodNamed B.named
  have hlocks := B.notSynchronized
  obtain ⟨R, hR⟩ : ∃ R : Room, R = ({ frames := 1, cells := 0, slots := 0, locals := 22 } : Room) := ⟨_, rfl⟩
  rw [show (headSpec (wz yX9_way cX9_way 7 (some .int)) { frames := 1, cells := 0, slots := 0, locals := 22 }).room = R from hR.symm]
  refine ti_mi hx hb hr hlocks (fun Q ret => ?_)
  have hl := lv_entry [.ref a0, .int x1, .int x2] (n := 7) (Nat.le_of_ble_eq_true rfl)
  rw [lg_entry_eq]
  generalize (lg_sl [.ref a0, .int x1, .int x2] ++ List.replicate (7 - (lg_sl [.ref a0, .int x1, .int x2]).length) Slot.unset).toArray = ls at hl ⊢
  have hl : lv_has ls 7 [(0, .ref a0), (1, .int x1), (2, .int x2)] := hl
  have hS : va_S (pA Y) s.heap s.heap [] := va_S.rf
  refine lv_aload_n hx hb dX9_way_0 rfl (lv_at hl 0 rfl) ?_
  refine lv_iload_n hx hb dX9_way_1 rfl (lv_at hl 1 rfl) ?_
  refine lv_i2l hx hb dX9_way_2 rfl ?_
  refine lv_topl (fun v2 e2 => ?_)
  have hv2 : jv v2 (-2147483648) 2147483647 := by rw [e2]; exact jv_i hx1
  have t2 : v2.toInt = x1.toInt := by rw [e2]; exact jv_e _
  refine ti_calli (va_runV (As := [.long v2]) (rest := []) ⟨hx, hb, hml, hown, hts⟩ (t_X9_isPerson l hT ha0 (jv_w hv2 (by decide))) (cwV 1 hts (good_V kw_476 kw_477 kw_478 kw_2 kw_479) rfl rfl rfl (by decide +kernel) ⟨by rw [hR]; decide, by rw [hR]; decide⟩) (ti_preV hK hT ha0 rfl rfl) rfl rfl hl.1 rfl (lv_room (Nat.le_of_ble_eq_true rfl)) dX9_way_3 ⟨Nat.zero_le _, Nat.zero_le _⟩) hS (fun _ h => h) (fun v3 H1 locs hB hS _ _ => ?_)
  obtain ⟨hH, hv3⟩ := hB
  rw [hH] at hS ⊢
  refine lv_if_eq (tgt := 16) hx hb dX9_way_6 (by decide) (fun c6 => ?_) (fun c6 => ?_)
  · skip
    have kl0 : (0 : Int32).toInt = 0 := by decide
    have f6 := i_eq c6
    refine lv_bipush (v := (-2)) hx hb dX9_way_16 (by decide) ?_
    exact ret _ _ _ _ _ dX9_way_18 (⟨rfl, iv_w (iv_c (x := (-2 : Int32)) (k := (-2)) (by decide)) (by decide)⟩) hS
  · skip
    have kl0 : (0 : Int32).toInt = 0 := by decide
    have f6 := i_ne c6
    exact (iv_no (show iv v3 1 (-1) from iv_nel hv3 (iv_c (x := (0 : Int32)) (k := 0) (by decide)) c6 (by decide)) (by decide)).elim
set_option maxHeartbeats 4000000 in
set_option maxRecDepth 100000 in
theorem t_X9_turnsTo (l : Launch) {D : va_G} {c0 : Nat → ClassId} {Y : Nat → Option Nat} {H : Heap} (hT : TI D vwCl (tysOf c0) (RT1 false) Y H) {a0 : Nat} (ha0 : Y a0 = some 9) {x1 : Int32} (hx1 : iv x1 (-2147483648) 2147483647) {x2 : Int32} (hx2 : iv x2 (-2147483648) 2147483647) : Met l yX9_turnsTo (wz yX9_turnsTo cX9_turnsTo 4 (some .int)) { frames := 1, cells := 0, slots := 0, locals := 22 } (TP D vwCl (tysOf c0) H [.ref a0, .int x1, .int x2]) (TQi (fun x H' => H' = H ∧ iv x (-2) (-2)) Y) 0 0 (pA Y) := by
  refine Met.ofW (cc := cX9_turnsTo) (maxL := 4) (ret := (some .int)) (by decide) rfl ?_
  intro p e s m args below meth c s₁ B hml hv
  obtain ⟨rfl, rfl, hK⟩ := hv
  have hx := B.exec
  have hb := B.bytes
  have hr := B.returns
  have hts : ∀ w ∈ wq, w.before _ s = true := fun w h => atoms_spec (ws := wz yX9_turnsTo cX9_turnsTo 4 (some .int)) B.pre w (List.mem_cons_of_mem _ h)
  have hown : s.vm.findClass RX9 = some m.cls := findClass_of_methodNamed B.named
  have hlocks := B.notSynchronized
  obtain ⟨R, hR⟩ : ∃ R : Room, R = ({ frames := 1, cells := 0, slots := 0, locals := 22 } : Room) := ⟨_, rfl⟩
  rw [show (headSpec (wz yX9_turnsTo cX9_turnsTo 4 (some .int)) { frames := 1, cells := 0, slots := 0, locals := 22 }).room = R from hR.symm]
  refine ti_mi hx hb hr hlocks (fun Q ret => ?_)
  have hl := lv_entry [.ref a0, .int x1, .int x2] (n := 4) (Nat.le_of_ble_eq_true rfl)
  rw [lg_entry_eq]
  generalize (lg_sl [.ref a0, .int x1, .int x2] ++ List.replicate (4 - (lg_sl [.ref a0, .int x1, .int x2]).length) Slot.unset).toArray = ls at hl ⊢
  have hl : lv_has ls 4 [(0, .ref a0), (1, .int x1), (2, .int x2)] := hl
  have hS : va_S (pA Y) s.heap s.heap [] := va_S.rf
  refine lv_aload_n hx hb dX9_turnsTo_0 rfl (lv_at hl 0 rfl) ?_
  refine lv_iload_n hx hb dX9_turnsTo_1 rfl (lv_at hl 1 rfl) ?_
  refine lv_i2l hx hb dX9_turnsTo_2 rfl ?_
  refine lv_topl (fun v2 e2 => ?_)
  have hv2 : jv v2 (-2147483648) 2147483647 := by rw [e2]; exact jv_i hx1
  have t2 : v2.toInt = x1.toInt := by rw [e2]; exact jv_e _
  refine ti_calli (va_runV (As := [.long v2]) (rest := []) ⟨hx, hb, hml, hown, hts⟩ (t_X9_isPerson l hT ha0 (jv_w hv2 (by decide))) (cwV 1 hts (good_V kw_476 kw_477 kw_478 kw_2 kw_479) rfl rfl rfl (by decide +kernel) ⟨by rw [hR]; decide, by rw [hR]; decide⟩) (ti_preV hK hT ha0 rfl rfl) rfl rfl hl.1 rfl (lv_room (Nat.le_of_ble_eq_true rfl)) dX9_turnsTo_3 ⟨Nat.zero_le _, Nat.zero_le _⟩) hS (fun _ h => h) (fun v3 H1 locs hB hS _ _ => ?_)
  obtain ⟨hH, hv3⟩ := hB
  rw [hH] at hS ⊢
  refine lv_if_eq (tgt := 17) hx hb dX9_turnsTo_6 (by decide) (fun c6 => ?_) (fun c6 => ?_)
  · skip
    have kl0 : (0 : Int32).toInt = 0 := by decide
    have f6 := i_eq c6
    refine lv_bipush (v := (-2)) hx hb dX9_turnsTo_17 (by decide) ?_
    exact ret _ _ _ _ _ dX9_turnsTo_19 (⟨rfl, iv_w (iv_c (x := (-2 : Int32)) (k := (-2)) (by decide)) (by decide)⟩) hS
  · skip
    have kl0 : (0 : Int32).toInt = 0 := by decide
    have f6 := i_ne c6
    exact (iv_no (show iv v3 1 (-1) from iv_nel hv3 (iv_c (x := (0 : Int32)) (k := 0) (by decide)) c6 (by decide)) (by decide)).elim
set_option maxHeartbeats 4000000 in
set_option maxRecDepth 100000 in
theorem t_X9_idle (l : Launch) {D : va_G} {c0 : Nat → ClassId} {Y : Nat → Option Nat} {H : Heap} (hT : TI D vwCl (tysOf c0) (RT1 false) Y H) {a0 : Nat} (ha0 : Y a0 = some 9) {x1 : Int32} (hx1 : iv x1 (-2147483648) 2147483647) : Met l yX9_idle (wz yX9_idle cX9_idle 5 (some .int)) { frames := 2, cells := 0, slots := 0, locals := 41 } (TP D vwCl (tysOf c0) H [.ref a0, .int x1]) (TQi (fun x H' => H' = H ∧ iv x (-2) (-2)) Y) 0 0 (pA Y) := by
  refine Met.ofW (cc := cX9_idle) (maxL := 5) (ret := (some .int)) (by decide) rfl ?_
  intro p e s m args below meth c s₁ B hml hv
  obtain ⟨rfl, rfl, hK⟩ := hv
  have hx := B.exec
  have hb := B.bytes
  have hr := B.returns
  have hts : ∀ w ∈ wq, w.before _ s = true := fun w h => atoms_spec (ws := wz yX9_idle cX9_idle 5 (some .int)) B.pre w (List.mem_cons_of_mem _ h)
  have hown : s.vm.findClass RX9 = some m.cls := findClass_of_methodNamed B.named
  have hlocks := B.notSynchronized
  obtain ⟨R, hR⟩ : ∃ R : Room, R = ({ frames := 2, cells := 0, slots := 0, locals := 41 } : Room) := ⟨_, rfl⟩
  rw [show (headSpec (wz yX9_idle cX9_idle 5 (some .int)) { frames := 2, cells := 0, slots := 0, locals := 41 }).room = R from hR.symm]
  refine ti_mi hx hb hr hlocks (fun Q ret => ?_)
  have hl := lv_entry [.ref a0, .int x1] (n := 5) (Nat.le_of_ble_eq_true rfl)
  rw [lg_entry_eq]
  generalize (lg_sl [.ref a0, .int x1] ++ List.replicate (5 - (lg_sl [.ref a0, .int x1]).length) Slot.unset).toArray = ls at hl ⊢
  have hl : lv_has ls 5 [(0, .ref a0), (1, .int x1)] := hl
  have hS : va_S (pA Y) s.heap s.heap [] := va_S.rf
  refine lv_aload_n hx hb dX9_idle_0 rfl (lv_at hl 0 rfl) ?_
  refine lv_iload_n hx hb dX9_idle_1 rfl (lv_at hl 1 rfl) ?_
  refine ti_calli (va_runV (As := [.int x1]) (rest := []) ⟨hx, hb, hml, hown, hts⟩ (t_X9_canPass l hT ha0 (iv_w hx1 (by decide))) (cwV 1 hts (good_V kw_833 kw_834 kw_835 kw_2 kw_836) rfl rfl rfl (by decide +kernel) ⟨by rw [hR]; decide, by rw [hR]; decide⟩) (ti_preV hK hT ha0 rfl rfl) rfl rfl hl.1 rfl (lv_room (Nat.le_of_ble_eq_true rfl)) dX9_idle_2 ⟨Nat.zero_le _, Nat.zero_le _⟩) hS (fun _ h => h) (fun v2 H1 locs hB hS _ _ => ?_)
  obtain ⟨hH, hv2⟩ := hB
  rw [hH] at hS ⊢
  refine lv_if_ne (tgt := 11) hx hb dX9_idle_5 (by decide) (fun c5 => ?_) (fun c5 => ?_)
  · skip
    have kl0 : (0 : Int32).toInt = 0 := by decide
    have f5 := i_ne c5
    exact (iv_no (show iv v2 1 (-1) from iv_nel hv2 (iv_c (x := (0 : Int32)) (k := 0) (by decide)) c5 (by decide)) (by decide)).elim
  · skip
    have kl0 : (0 : Int32).toInt = 0 := by decide
    have f5 := i_eq c5
    refine lv_bipush (v := (-2)) hx hb dX9_idle_8 (by decide) ?_
    exact ret _ _ _ _ _ dX9_idle_10 (⟨rfl, iv_w (iv_c (x := (-2 : Int32)) (k := (-2)) (by decide)) (by decide)⟩) hS
set_option maxHeartbeats 4000000 in
set_option maxRecDepth 100000 in
theorem t_X9_spread (l : Launch) {D : va_G} {c0 : Nat → ClassId} {Y : Nat → Option Nat} {H : Heap} (hT : TI D vwCl (tysOf c0) (RT1 false) Y H) {a0 : Nat} (ha0 : Y a0 = some 9) : Met l yX9_spread (wz yX9_spread cX9_spread 1 (some .int)) { frames := 1, cells := 0, slots := 0, locals := 23 } (TP D vwCl (tysOf c0) H [.ref a0]) (TQi (fun x H' => H' = H ∧ iv x 0 0) Y) 0 0 (pA Y) := by
  refine Met.ofW (cc := cX9_spread) (maxL := 1) (ret := (some .int)) (by decide) rfl ?_
  intro p e s m args below meth c s₁ B hml hv
  obtain ⟨rfl, rfl, hK⟩ := hv
  have hx := B.exec
  have hb := B.bytes
  have hr := B.returns
  have hts : ∀ w ∈ wq, w.before _ s = true := fun w h => atoms_spec (ws := wz yX9_spread cX9_spread 1 (some .int)) B.pre w (List.mem_cons_of_mem _ h)
  have hown : s.vm.findClass RX9 = some m.cls := findClass_of_methodNamed B.named
  have hlocks := B.notSynchronized
  obtain ⟨R, hR⟩ : ∃ R : Room, R = ({ frames := 1, cells := 0, slots := 0, locals := 23 } : Room) := ⟨_, rfl⟩
  rw [show (headSpec (wz yX9_spread cX9_spread 1 (some .int)) { frames := 1, cells := 0, slots := 0, locals := 23 }).room = R from hR.symm]
  refine ti_mi hx hb hr hlocks (fun Q ret => ?_)
  have hl := lv_entry [.ref a0] (n := 1) (Nat.le_of_ble_eq_true rfl)
  rw [lg_entry_eq]
  generalize (lg_sl [.ref a0] ++ List.replicate (1 - (lg_sl [.ref a0]).length) Slot.unset).toArray = ls at hl ⊢
  have hl : lv_has ls 1 [(0, .ref a0)] := hl
  have hS : va_S (pA Y) s.heap s.heap [] := va_S.rf
  refine lv_aload_n hx hb dX9_spread_0 rfl (lv_at hl 0 rfl) ?_
  refine ti_getr hx hb hts inlX9 hown hK hT ha0 rfl rfl 1 (by decide) (hts _ kw_20) (fun _ h9 => h9) rfl dX9_spread_1 (fun v1 hv1 => ?_)
  refine ti_calli (va_runV (As := []) (rest := []) ⟨hx, hb, hml, hown, hts⟩ (t_X7_spreadOut l hT hv1) (cwV 0 hts (good_V kw_1174 kw_1175 kw_1176 kw_19 kw_1177) rfl rfl rfl (by decide +kernel) ⟨by rw [hR]; decide, by rw [hR]; decide⟩) (ti_preV hK hT hv1 rfl rfl) rfl rfl hl.1 rfl (lv_room (Nat.le_of_ble_eq_true rfl)) dX9_spread_4 ⟨Nat.zero_le _, Nat.zero_le _⟩) hS (fun _ h => h) (fun v4 H1 locs hB hS _ _ => ?_)
  obtain ⟨hH, hv4⟩ := hB
  rw [hH] at hS ⊢
  exact ret _ _ _ _ _ dX9_spread_7 (⟨rfl, iv_w hv4 (by decide)⟩) hS
set_option maxHeartbeats 4000000 in
set_option maxRecDepth 100000 in
theorem t_X9_beside (l : Launch) {D : va_G} {c0 : Nat → ClassId} {Y : Nat → Option Nat} {H : Heap} (hT : TI D vwCl (tysOf c0) (RT1 false) Y H) {a0 : Nat} (ha0 : Y a0 = some 9) {x1 : Int32} (hx1 : iv x1 (-2147483648) 2147483647) {x2 : Int32} (hx2 : iv x2 (-2147483648) 2147483647) : Met l yX9_beside (wz yX9_beside cX9_beside 7 (some .int)) { frames := 2, cells := 0, slots := 0, locals := 41 } (TP D vwCl (tysOf c0) H [.ref a0, .int x1, .int x2]) (TQi (fun x H' => H' = H ∧ iv x (-2000000000) (-2000000000)) Y) 0 0 (pA Y) := by
  refine Met.ofW (cc := cX9_beside) (maxL := 7) (ret := (some .int)) (by decide) rfl ?_
  intro p e s m args below meth c s₁ B hml hv
  obtain ⟨rfl, rfl, hK⟩ := hv
  have hx := B.exec
  have hb := B.bytes
  have hr := B.returns
  have hts : ∀ w ∈ wq, w.before _ s = true := fun w h => atoms_spec (ws := wz yX9_beside cX9_beside 7 (some .int)) B.pre w (List.mem_cons_of_mem _ h)
  have hown : s.vm.findClass RX9 = some m.cls := findClass_of_methodNamed B.named
  have hlocks := B.notSynchronized
  obtain ⟨R, hR⟩ : ∃ R : Room, R = ({ frames := 2, cells := 0, slots := 0, locals := 41 } : Room) := ⟨_, rfl⟩
  rw [show (headSpec (wz yX9_beside cX9_beside 7 (some .int)) { frames := 2, cells := 0, slots := 0, locals := 41 }).room = R from hR.symm]
  refine ti_mi hx hb hr hlocks (fun Q ret => ?_)
  have hl := lv_entry [.ref a0, .int x1, .int x2] (n := 7) (Nat.le_of_ble_eq_true rfl)
  rw [lg_entry_eq]
  generalize (lg_sl [.ref a0, .int x1, .int x2] ++ List.replicate (7 - (lg_sl [.ref a0, .int x1, .int x2]).length) Slot.unset).toArray = ls at hl ⊢
  have hl : lv_has ls 7 [(0, .ref a0), (1, .int x1), (2, .int x2)] := hl
  have hS : va_S (pA Y) s.heap s.heap [] := va_S.rf
  refine lv_aload_n hx hb dX9_beside_0 rfl (lv_at hl 0 rfl) ?_
  refine lv_iload_n hx hb dX9_beside_1 rfl (lv_at hl 1 rfl) ?_
  refine ti_calli (va_runV (As := [.int x1]) (rest := []) ⟨hx, hb, hml, hown, hts⟩ (t_X9_canPass l hT ha0 (iv_w hx1 (by decide))) (cwV 1 hts (good_V kw_833 kw_834 kw_835 kw_2 kw_836) rfl rfl rfl (by decide +kernel) ⟨by rw [hR]; decide, by rw [hR]; decide⟩) (ti_preV hK hT ha0 rfl rfl) rfl rfl hl.1 rfl (lv_room (Nat.le_of_ble_eq_true rfl)) dX9_beside_2 ⟨Nat.zero_le _, Nat.zero_le _⟩) hS (fun _ h => h) (fun v2 H1 locs hB hS _ _ => ?_)
  obtain ⟨hH, hv2⟩ := hB
  rw [hH] at hS ⊢
  refine lv_if_eq (tgt := 17) hx hb dX9_beside_5 (by decide) (fun c5 => ?_) (fun c5 => ?_)
  · skip
    have kl0 : (0 : Int32).toInt = 0 := by decide
    have f5 := i_eq c5
    refine lv_ldc (v := (-2000000000)) hx hb hown (hts _ kw_1003) dX9_beside_17 ?_
    exact ret _ _ _ _ _ dX9_beside_19 (⟨rfl, iv_w (iv_c (x := (-2000000000 : Int32)) (k := (-2000000000)) (by decide)) (by decide)⟩) hS
  · skip
    have kl0 : (0 : Int32).toInt = 0 := by decide
    have f5 := i_ne c5
    exact (iv_no (show iv v2 1 (-1) from iv_nel hv2 (iv_c (x := (0 : Int32)) (k := 0) (by decide)) c5 (by decide)) (by decide)).elim
set_option maxHeartbeats 4000000 in
set_option maxRecDepth 100000 in
theorem t_X9_law (l : Launch) {D : va_G} {c0 : Nat → ClassId} {Y : Nat → Option Nat} {H : Heap} (hT : TI D vwCl (tysOf c0) (RT1 false) Y H) {a0 : Nat} (ha0 : Y a0 = some 9) {x1 : Int32} (hx1 : iv x1 (-2147483648) 2147483647) {x2 : Int32} (hx2 : iv x2 (-2147483648) 2147483647) {x3 : Int32} (hx3 : iv x3 (-2147483648) 2147483647) {x4 : Int32} (hx4 : iv x4 0 1) : Met l yX9_law (wz yX9_law cX9_law 5 (some .int)) { frames := 0, cells := 0, slots := 0, locals := 0 } (TP D vwCl (tysOf c0) H [.ref a0, .int x1, .int x2, .int x3, .int x4]) (TQi (fun x H' => H' = H ∧ iv x (-2) (-2)) Y) 0 0 (pA Y) := by
  refine Met.ofW (cc := cX9_law) (maxL := 5) (ret := (some .int)) (by decide) rfl ?_
  intro p e s m args below meth c s₁ B hml hv
  obtain ⟨rfl, rfl, hK⟩ := hv
  have hx := B.exec
  have hb := B.bytes
  have hr := B.returns
  have hts : ∀ w ∈ wq, w.before _ s = true := fun w h => atoms_spec (ws := wz yX9_law cX9_law 5 (some .int)) B.pre w (List.mem_cons_of_mem _ h)
  have hown : s.vm.findClass RX9 = some m.cls := findClass_of_methodNamed B.named
  have hlocks := B.notSynchronized
  obtain ⟨R, hR⟩ : ∃ R : Room, R = ({ frames := 0, cells := 0, slots := 0, locals := 0 } : Room) := ⟨_, rfl⟩
  rw [show (headSpec (wz yX9_law cX9_law 5 (some .int)) { frames := 0, cells := 0, slots := 0, locals := 0 }).room = R from hR.symm]
  refine ti_mi hx hb hr hlocks (fun Q ret => ?_)
  have hl := lv_entry [.ref a0, .int x1, .int x2, .int x3, .int x4] (n := 5) (Nat.le_of_ble_eq_true rfl)
  rw [lg_entry_eq]
  generalize (lg_sl [.ref a0, .int x1, .int x2, .int x3, .int x4] ++ List.replicate (5 - (lg_sl [.ref a0, .int x1, .int x2, .int x3, .int x4]).length) Slot.unset).toArray = ls at hl ⊢
  have hl : lv_has ls 5 [(0, .ref a0), (1, .int x1), (2, .int x2), (3, .int x3), (4, .int x4)] := hl
  have hS : va_S (pA Y) s.heap s.heap [] := va_S.rf
  refine lv_aload_n hx hb dX9_law_0 rfl (lv_at hl 0 rfl) ?_
  refine ti_getr hx hb hts inlX9 hown hK hT ha0 rfl rfl 1 (by decide) (hts _ kw_20) (fun _ h9 => h9) rfl dX9_law_1 (fun v1 hv1 => ?_)
  refine ti_geti hx hb hts inlX7 hown hK hT hv1 rfl rfl 2 (by decide) (hts _ kw_189) (fun _ h9 => h9) rfl dX9_law_4 (fun v4 hv4 => ?_)
  refine lv_if_eq (tgt := 39) hx hb dX9_law_7 (by decide) (fun c7 => ?_) (fun c7 => ?_)
  · skip
    have kl0 : (0 : Int32).toInt = 0 := by decide
    have f7 := i_eq c7
    refine lv_bipush (v := (-2)) hx hb dX9_law_39 (by decide) ?_
    exact ret _ _ _ _ _ dX9_law_41 (⟨rfl, iv_w (iv_c (x := (-2 : Int32)) (k := (-2)) (by decide)) (by decide)⟩) hS
  · skip
    have kl0 : (0 : Int32).toInt = 0 := by decide
    have f7 := i_ne c7
    exact (iv_no (show iv v4 1 (-1) from iv_nel hv4 (iv_c (x := (0 : Int32)) (k := 0) (by decide)) c7 (by decide)) (by decide)).elim
set_option maxHeartbeats 4000000 in
set_option maxRecDepth 100000 in
theorem t_X9_laws (l : Launch) {D : va_G} {c0 : Nat → ClassId} {Y : Nat → Option Nat} {H : Heap} (hT : TI D vwCl (tysOf c0) (RT1 false) Y H) {a0 : Nat} (ha0 : Y a0 = some 9) {x1 : Int32} (hx1 : iv x1 (-2147483648) 2147483647) : Met l yX9_laws (wz yX9_laws cX9_laws 6 (some .int)) { frames := 2, cells := 0, slots := 0, locals := 41 } (TP D vwCl (tysOf c0) H [.ref a0, .int x1]) (TQi (fun x H' => H' = H ∧ iv x (-2) (-2)) Y) 0 0 (pA Y) := by
  refine Met.ofW (cc := cX9_laws) (maxL := 6) (ret := (some .int)) (by decide) rfl ?_
  intro p e s m args below meth c s₁ B hml hv
  obtain ⟨rfl, rfl, hK⟩ := hv
  have hx := B.exec
  have hb := B.bytes
  have hr := B.returns
  have hts : ∀ w ∈ wq, w.before _ s = true := fun w h => atoms_spec (ws := wz yX9_laws cX9_laws 6 (some .int)) B.pre w (List.mem_cons_of_mem _ h)
  have hown : s.vm.findClass RX9 = some m.cls := findClass_of_methodNamed B.named
  have hlocks := B.notSynchronized
  obtain ⟨R, hR⟩ : ∃ R : Room, R = ({ frames := 2, cells := 0, slots := 0, locals := 41 } : Room) := ⟨_, rfl⟩
  rw [show (headSpec (wz yX9_laws cX9_laws 6 (some .int)) { frames := 2, cells := 0, slots := 0, locals := 41 }).room = R from hR.symm]
  refine ti_mi hx hb hr hlocks (fun Q ret => ?_)
  have hl := lv_entry [.ref a0, .int x1] (n := 6) (Nat.le_of_ble_eq_true rfl)
  rw [lg_entry_eq]
  generalize (lg_sl [.ref a0, .int x1] ++ List.replicate (6 - (lg_sl [.ref a0, .int x1]).length) Slot.unset).toArray = ls at hl ⊢
  have hl : lv_has ls 6 [(0, .ref a0), (1, .int x1)] := hl
  have hS : va_S (pA Y) s.heap s.heap [] := va_S.rf
  refine lv_aload_n hx hb dX9_laws_0 rfl (lv_at hl 0 rfl) ?_
  refine lv_iload_n hx hb dX9_laws_1 rfl (lv_at hl 1 rfl) ?_
  refine ti_calli (va_runV (As := [.int x1]) (rest := []) ⟨hx, hb, hml, hown, hts⟩ (t_X9_canPass l hT ha0 (iv_w hx1 (by decide))) (cwV 1 hts (good_V kw_833 kw_834 kw_835 kw_2 kw_836) rfl rfl rfl (by decide +kernel) ⟨by rw [hR]; decide, by rw [hR]; decide⟩) (ti_preV hK hT ha0 rfl rfl) rfl rfl hl.1 rfl (lv_room (Nat.le_of_ble_eq_true rfl)) dX9_laws_2 ⟨Nat.zero_le _, Nat.zero_le _⟩) hS (fun _ h => h) (fun v2 H1 locs hB hS _ _ => ?_)
  obtain ⟨hH, hv2⟩ := hB
  rw [hH] at hS ⊢
  refine lv_if_ne (tgt := 11) hx hb dX9_laws_5 (by decide) (fun c5 => ?_) (fun c5 => ?_)
  · skip
    have kl0 : (0 : Int32).toInt = 0 := by decide
    have f5 := i_ne c5
    exact (iv_no (show iv v2 1 (-1) from iv_nel hv2 (iv_c (x := (0 : Int32)) (k := 0) (by decide)) c5 (by decide)) (by decide)).elim
  · skip
    have kl0 : (0 : Int32).toInt = 0 := by decide
    have f5 := i_eq c5
    refine lv_bipush (v := (-2)) hx hb dX9_laws_8 (by decide) ?_
    exact ret _ _ _ _ _ dX9_laws_10 (⟨rfl, iv_w (iv_c (x := (-2 : Int32)) (k := (-2)) (by decide)) (by decide)⟩) hS
set_option maxHeartbeats 4000000 in
set_option maxRecDepth 100000 in
theorem t_X9_leaves (l : Launch) {D : va_G} {c0 : Nat → ClassId} {Y : Nat → Option Nat} {H : Heap} (hT : TI D vwCl (tysOf c0) (RT1 false) Y H) {a0 : Nat} (ha0 : Y a0 = some 9) {x1 : Int32} (hx1 : iv x1 (-2147483648) 2147483647) {x2 : Int32} (hx2 : iv x2 (-2147483648) 2147483647) : Met l yX9_leaves (wz yX9_leaves cX9_leaves 6 (some .int)) { frames := 2, cells := 0, slots := 0, locals := 44 } (TP D vwCl (tysOf c0) H [.ref a0, .int x1, .int x2]) (TQi (fun x H' => H' = H ∧ iv x (-2) (-2)) Y) 0 0 (pA Y) := by
  refine Met.ofW (cc := cX9_leaves) (maxL := 6) (ret := (some .int)) (by decide) rfl ?_
  intro p e s m args below meth c s₁ B hml hv
  obtain ⟨rfl, rfl, hK⟩ := hv
  have hx := B.exec
  have hb := B.bytes
  have hr := B.returns
  have hts : ∀ w ∈ wq, w.before _ s = true := fun w h => atoms_spec (ws := wz yX9_leaves cX9_leaves 6 (some .int)) B.pre w (List.mem_cons_of_mem _ h)
  have hown : s.vm.findClass RX9 = some m.cls := findClass_of_methodNamed B.named
  have hlocks := B.notSynchronized
  obtain ⟨R, hR⟩ : ∃ R : Room, R = ({ frames := 2, cells := 0, slots := 0, locals := 44 } : Room) := ⟨_, rfl⟩
  rw [show (headSpec (wz yX9_leaves cX9_leaves 6 (some .int)) { frames := 2, cells := 0, slots := 0, locals := 44 }).room = R from hR.symm]
  refine ti_mi hx hb hr hlocks (fun Q ret => ?_)
  have hl := lv_entry [.ref a0, .int x1, .int x2] (n := 6) (Nat.le_of_ble_eq_true rfl)
  rw [lg_entry_eq]
  generalize (lg_sl [.ref a0, .int x1, .int x2] ++ List.replicate (6 - (lg_sl [.ref a0, .int x1, .int x2]).length) Slot.unset).toArray = ls at hl ⊢
  have hl : lv_has ls 6 [(0, .ref a0), (1, .int x1), (2, .int x2)] := hl
  have hS : va_S (pA Y) s.heap s.heap [] := va_S.rf
  refine lv_aload_n hx hb dX9_leaves_0 rfl (lv_at hl 0 rfl) ?_
  refine lv_iload_n hx hb dX9_leaves_1 rfl (lv_at hl 1 rfl) ?_
  refine lv_iload_n hx hb dX9_leaves_2 rfl (lv_at hl 2 rfl) ?_
  refine ti_calli (va_runV (As := [.int x1, .int x2]) (rest := []) ⟨hx, hb, hml, hown, hts⟩ (t_X9_arePair l hT ha0 (iv_w hx1 (by decide)) (iv_w hx2 (by decide))) (cwV 2 hts (good_V kw_529 kw_530 kw_531 kw_2 kw_532) rfl rfl rfl (by decide +kernel) ⟨by rw [hR]; decide, by rw [hR]; decide⟩) (ti_preV hK hT ha0 rfl rfl) rfl rfl hl.1 rfl (lv_room (Nat.le_of_ble_eq_true rfl)) dX9_leaves_3 ⟨Nat.zero_le _, Nat.zero_le _⟩) hS (fun _ h => h) (fun v3 H1 locs hB hS _ _ => ?_)
  obtain ⟨hH, hv3⟩ := hB
  rw [hH] at hS ⊢
  refine lv_if_ne (tgt := 12) hx hb dX9_leaves_6 (by decide) (fun c6 => ?_) (fun c6 => ?_)
  · skip
    have kl0 : (0 : Int32).toInt = 0 := by decide
    have f6 := i_ne c6
    exact (iv_no (show iv v3 1 (-1) from iv_nel hv3 (iv_c (x := (0 : Int32)) (k := 0) (by decide)) c6 (by decide)) (by decide)).elim
  · skip
    have kl0 : (0 : Int32).toInt = 0 := by decide
    have f6 := i_eq c6
    refine lv_bipush (v := (-2)) hx hb dX9_leaves_9 (by decide) ?_
    exact ret _ _ _ _ _ dX9_leaves_11 (⟨rfl, iv_w (iv_c (x := (-2 : Int32)) (k := (-2)) (by decide)) (by decide)⟩) hS
set_option maxHeartbeats 4000000 in
set_option maxRecDepth 100000 in
theorem t_X9_breaks (l : Launch) {D : va_G} {c0 : Nat → ClassId} {Y : Nat → Option Nat} {H : Heap} (hT : TI D vwCl (tysOf c0) (RT1 false) Y H) {a0 : Nat} (ha0 : Y a0 = some 9) {x1 : Int32} (hx1 : iv x1 (-2147483648) 2147483647) {x2 : Int32} (hx2 : iv x2 (-2147483648) 2147483647) : Met l yX9_breaks (wz yX9_breaks cX9_breaks 3 (some .int)) { frames := 2, cells := 0, slots := 0, locals := 44 } (TP D vwCl (tysOf c0) H [.ref a0, .int x1, .int x2]) (TQi (fun x H' => H' = H ∧ iv x (-2) (-2)) Y) 0 0 (pA Y) := by
  refine Met.ofW (cc := cX9_breaks) (maxL := 3) (ret := (some .int)) (by decide) rfl ?_
  intro p e s m args below meth c s₁ B hml hv
  obtain ⟨rfl, rfl, hK⟩ := hv
  have hx := B.exec
  have hb := B.bytes
  have hr := B.returns
  have hts : ∀ w ∈ wq, w.before _ s = true := fun w h => atoms_spec (ws := wz yX9_breaks cX9_breaks 3 (some .int)) B.pre w (List.mem_cons_of_mem _ h)
  have hown : s.vm.findClass RX9 = some m.cls := findClass_of_methodNamed B.named
  have hlocks := B.notSynchronized
  obtain ⟨R, hR⟩ : ∃ R : Room, R = ({ frames := 2, cells := 0, slots := 0, locals := 44 } : Room) := ⟨_, rfl⟩
  rw [show (headSpec (wz yX9_breaks cX9_breaks 3 (some .int)) { frames := 2, cells := 0, slots := 0, locals := 44 }).room = R from hR.symm]
  refine ti_mi hx hb hr hlocks (fun Q ret => ?_)
  have hl := lv_entry [.ref a0, .int x1, .int x2] (n := 3) (Nat.le_of_ble_eq_true rfl)
  rw [lg_entry_eq]
  generalize (lg_sl [.ref a0, .int x1, .int x2] ++ List.replicate (3 - (lg_sl [.ref a0, .int x1, .int x2]).length) Slot.unset).toArray = ls at hl ⊢
  have hl : lv_has ls 3 [(0, .ref a0), (1, .int x1), (2, .int x2)] := hl
  have hS : va_S (pA Y) s.heap s.heap [] := va_S.rf
  refine lv_aload_n hx hb dX9_breaks_0 rfl (lv_at hl 0 rfl) ?_
  refine lv_iload_n hx hb dX9_breaks_1 rfl (lv_at hl 1 rfl) ?_
  refine lv_iload_n hx hb dX9_breaks_2 rfl (lv_at hl 2 rfl) ?_
  refine ti_calli (va_runV (As := [.int x1, .int x2]) (rest := []) ⟨hx, hb, hml, hown, hts⟩ (t_X9_arePair l hT ha0 (iv_w hx1 (by decide)) (iv_w hx2 (by decide))) (cwV 2 hts (good_V kw_529 kw_530 kw_531 kw_2 kw_532) rfl rfl rfl (by decide +kernel) ⟨by rw [hR]; decide, by rw [hR]; decide⟩) (ti_preV hK hT ha0 rfl rfl) rfl rfl hl.1 rfl (lv_room (Nat.le_of_ble_eq_true rfl)) dX9_breaks_3 ⟨Nat.zero_le _, Nat.zero_le _⟩) hS (fun _ h => h) (fun v3 H1 locs hB hS _ _ => ?_)
  obtain ⟨hH, hv3⟩ := hB
  rw [hH] at hS ⊢
  refine lv_if_eq (tgt := 18) hx hb dX9_breaks_6 (by decide) (fun c6 => ?_) (fun c6 => ?_)
  · skip
    have kl0 : (0 : Int32).toInt = 0 := by decide
    have f6 := i_eq c6
    refine lv_bipush (v := (-2)) hx hb dX9_breaks_18 (by decide) ?_
    exact ret _ _ _ _ _ dX9_breaks_20 (⟨rfl, iv_w (iv_c (x := (-2 : Int32)) (k := (-2)) (by decide)) (by decide)⟩) hS
  · skip
    have kl0 : (0 : Int32).toInt = 0 := by decide
    have f6 := i_ne c6
    exact (iv_no (show iv v3 1 (-1) from iv_nel hv3 (iv_c (x := (0 : Int32)) (k := 0) (by decide)) c6 (by decide)) (by decide)).elim
set_option maxHeartbeats 4000000 in
set_option maxRecDepth 100000 in
theorem t_X9_third (l : Launch) {D : va_G} {c0 : Nat → ClassId} {Y : Nat → Option Nat} {H : Heap} (hT : TI D vwCl (tysOf c0) (RT1 false) Y H) {a0 : Nat} (ha0 : Y a0 = some 9) {x1 : Int32} (hx1 : iv x1 (-2147483648) 2147483647) : Met l yX9_third (wz yX9_third cX9_third 5 (some .int)) { frames := 1, cells := 0, slots := 0, locals := 22 } (TP D vwCl (tysOf c0) H [.ref a0, .int x1]) (TQi (fun x H' => H' = H ∧ iv x (-2) (-2)) Y) 0 0 (pA Y) := by
  refine Met.ofW (cc := cX9_third) (maxL := 5) (ret := (some .int)) (by decide) rfl ?_
  intro p e s m args below meth c s₁ B hml hv
  obtain ⟨rfl, rfl, hK⟩ := hv
  have hx := B.exec
  have hb := B.bytes
  have hr := B.returns
  have hts : ∀ w ∈ wq, w.before _ s = true := fun w h => atoms_spec (ws := wz yX9_third cX9_third 5 (some .int)) B.pre w (List.mem_cons_of_mem _ h)
  have hown : s.vm.findClass RX9 = some m.cls := findClass_of_methodNamed B.named
  have hlocks := B.notSynchronized
  obtain ⟨R, hR⟩ : ∃ R : Room, R = ({ frames := 1, cells := 0, slots := 0, locals := 22 } : Room) := ⟨_, rfl⟩
  rw [show (headSpec (wz yX9_third cX9_third 5 (some .int)) { frames := 1, cells := 0, slots := 0, locals := 22 }).room = R from hR.symm]
  refine ti_mi hx hb hr hlocks (fun Q ret => ?_)
  have hl := lv_entry [.ref a0, .int x1] (n := 5) (Nat.le_of_ble_eq_true rfl)
  rw [lg_entry_eq]
  generalize (lg_sl [.ref a0, .int x1] ++ List.replicate (5 - (lg_sl [.ref a0, .int x1]).length) Slot.unset).toArray = ls at hl ⊢
  have hl : lv_has ls 5 [(0, .ref a0), (1, .int x1)] := hl
  have hS : va_S (pA Y) s.heap s.heap [] := va_S.rf
  refine lv_aload_n hx hb dX9_third_0 rfl (lv_at hl 0 rfl) ?_
  refine lv_iload_n hx hb dX9_third_1 rfl (lv_at hl 1 rfl) ?_
  refine lv_i2l hx hb dX9_third_2 rfl ?_
  refine lv_topl (fun v2 e2 => ?_)
  have hv2 : jv v2 (-2147483648) 2147483647 := by rw [e2]; exact jv_i hx1
  have t2 : v2.toInt = x1.toInt := by rw [e2]; exact jv_e _
  refine ti_calli (va_runV (As := [.long v2]) (rest := []) ⟨hx, hb, hml, hown, hts⟩ (t_X9_isPerson l hT ha0 (jv_w hv2 (by decide))) (cwV 1 hts (good_V kw_476 kw_477 kw_478 kw_2 kw_479) rfl rfl rfl (by decide +kernel) ⟨by rw [hR]; decide, by rw [hR]; decide⟩) (ti_preV hK hT ha0 rfl rfl) rfl rfl hl.1 rfl (lv_room (Nat.le_of_ble_eq_true rfl)) dX9_third_3 ⟨Nat.zero_le _, Nat.zero_le _⟩) hS (fun _ h => h) (fun v3 H1 locs hB hS _ _ => ?_)
  obtain ⟨hH, hv3⟩ := hB
  rw [hH] at hS ⊢
  refine lv_if_ne (tgt := 12) hx hb dX9_third_6 (by decide) (fun c6 => ?_) (fun c6 => ?_)
  · skip
    have kl0 : (0 : Int32).toInt = 0 := by decide
    have f6 := i_ne c6
    exact (iv_no (show iv v3 1 (-1) from iv_nel hv3 (iv_c (x := (0 : Int32)) (k := 0) (by decide)) c6 (by decide)) (by decide)).elim
  · skip
    have kl0 : (0 : Int32).toInt = 0 := by decide
    have f6 := i_eq c6
    refine lv_bipush (v := (-2)) hx hb dX9_third_9 (by decide) ?_
    exact ret _ _ _ _ _ dX9_third_11 (⟨rfl, iv_w (iv_c (x := (-2 : Int32)) (k := (-2)) (by decide)) (by decide)⟩) hS
set_option maxHeartbeats 4000000 in
set_option maxRecDepth 100000 in
theorem t_X9_know (l : Launch) {D : va_G} {c0 : Nat → ClassId} {Y : Nat → Option Nat} {H : Heap} (hT : TI D vwCl (tysOf c0) (RT1 false) Y H) {a0 : Nat} (ha0 : Y a0 = some 9) {x1 : Int32} (hx1 : iv x1 (-2147483648) 2147483647) : Met l yX9_know (wz yX9_know cX9_know 2 (some .int)) { frames := 1, cells := 0, slots := 0, locals := 22 } (TP D vwCl (tysOf c0) H [.ref a0, .int x1]) (TQi (fun x H' => H' = H ∧ iv x (-2000000000) (-2000000000)) Y) 0 0 (pA Y) := by
  refine Met.ofW (cc := cX9_know) (maxL := 2) (ret := (some .int)) (by decide) rfl ?_
  intro p e s m args below meth c s₁ B hml hv
  obtain ⟨rfl, rfl, hK⟩ := hv
  have hx := B.exec
  have hb := B.bytes
  have hr := B.returns
  have hts : ∀ w ∈ wq, w.before _ s = true := fun w h => atoms_spec (ws := wz yX9_know cX9_know 2 (some .int)) B.pre w (List.mem_cons_of_mem _ h)
  have hown : s.vm.findClass RX9 = some m.cls := findClass_of_methodNamed B.named
  have hlocks := B.notSynchronized
  obtain ⟨R, hR⟩ : ∃ R : Room, R = ({ frames := 1, cells := 0, slots := 0, locals := 22 } : Room) := ⟨_, rfl⟩
  rw [show (headSpec (wz yX9_know cX9_know 2 (some .int)) { frames := 1, cells := 0, slots := 0, locals := 22 }).room = R from hR.symm]
  refine ti_mi hx hb hr hlocks (fun Q ret => ?_)
  have hl := lv_entry [.ref a0, .int x1] (n := 2) (Nat.le_of_ble_eq_true rfl)
  rw [lg_entry_eq]
  generalize (lg_sl [.ref a0, .int x1] ++ List.replicate (2 - (lg_sl [.ref a0, .int x1]).length) Slot.unset).toArray = ls at hl ⊢
  have hl : lv_has ls 2 [(0, .ref a0), (1, .int x1)] := hl
  have hS : va_S (pA Y) s.heap s.heap [] := va_S.rf
  refine lv_aload_n hx hb dX9_know_0 rfl (lv_at hl 0 rfl) ?_
  refine lv_iload_n hx hb dX9_know_1 rfl (lv_at hl 1 rfl) ?_
  refine lv_i2l hx hb dX9_know_2 rfl ?_
  refine lv_topl (fun v2 e2 => ?_)
  have hv2 : jv v2 (-2147483648) 2147483647 := by rw [e2]; exact jv_i hx1
  have t2 : v2.toInt = x1.toInt := by rw [e2]; exact jv_e _
  refine ti_calli (va_runV (As := [.long v2]) (rest := []) ⟨hx, hb, hml, hown, hts⟩ (t_X9_isPerson l hT ha0 (jv_w hv2 (by decide))) (cwV 1 hts (good_V kw_476 kw_477 kw_478 kw_2 kw_479) rfl rfl rfl (by decide +kernel) ⟨by rw [hR]; decide, by rw [hR]; decide⟩) (ti_preV hK hT ha0 rfl rfl) rfl rfl hl.1 rfl (lv_room (Nat.le_of_ble_eq_true rfl)) dX9_know_3 ⟨Nat.zero_le _, Nat.zero_le _⟩) hS (fun _ h => h) (fun v3 H1 locs hB hS _ _ => ?_)
  obtain ⟨hH, hv3⟩ := hB
  rw [hH] at hS ⊢
  refine lv_if_eq (tgt := 27) hx hb dX9_know_6 (by decide) (fun c6 => ?_) (fun c6 => ?_)
  · skip
    have kl0 : (0 : Int32).toInt = 0 := by decide
    have f6 := i_eq c6
    refine lv_ldc (v := (-2000000000)) hx hb hown (hts _ kw_1003) dX9_know_27 ?_
    exact ret _ _ _ _ _ dX9_know_29 (⟨rfl, iv_w (iv_c (x := (-2000000000 : Int32)) (k := (-2000000000)) (by decide)) (by decide)⟩) hS
  · skip
    have kl0 : (0 : Int32).toInt = 0 := by decide
    have f6 := i_ne c6
    exact (iv_no (show iv v3 1 (-1) from iv_nel hv3 (iv_c (x := (0 : Int32)) (k := 0) (by decide)) c6 (by decide)) (by decide)).elim
set_option maxHeartbeats 4000000 in
set_option maxRecDepth 100000 in
theorem t_X9_knows (l : Launch) {D : va_G} {c0 : Nat → ClassId} {Y : Nat → Option Nat} {H : Heap} (hT : TI D vwCl (tysOf c0) (RT1 false) Y H) {a0 : Nat} (ha0 : Y a0 = some 9) {x1 : Int32} (hx1 : iv x1 (-2147483648) 2147483647) {x2 : Int32} (hx2 : iv x2 (-2147483648) 2147483647) : Met l yX9_knows (wz yX9_knows cX9_knows 3 (some .int)) { frames := 2, cells := 0, slots := 0, locals := 44 } (TP D vwCl (tysOf c0) H [.ref a0, .int x1, .int x2]) (TQi (fun x H' => H' = H ∧ iv x (-2000000000) (-2000000000)) Y) 0 0 (pA Y) := by
  refine Met.ofW (cc := cX9_knows) (maxL := 3) (ret := (some .int)) (by decide) rfl ?_
  intro p e s m args below meth c s₁ B hml hv
  obtain ⟨rfl, rfl, hK⟩ := hv
  have hx := B.exec
  have hb := B.bytes
  have hr := B.returns
  have hts : ∀ w ∈ wq, w.before _ s = true := fun w h => atoms_spec (ws := wz yX9_knows cX9_knows 3 (some .int)) B.pre w (List.mem_cons_of_mem _ h)
  have hown : s.vm.findClass RX9 = some m.cls := findClass_of_methodNamed B.named
  have hlocks := B.notSynchronized
  obtain ⟨R, hR⟩ : ∃ R : Room, R = ({ frames := 2, cells := 0, slots := 0, locals := 44 } : Room) := ⟨_, rfl⟩
  rw [show (headSpec (wz yX9_knows cX9_knows 3 (some .int)) { frames := 2, cells := 0, slots := 0, locals := 44 }).room = R from hR.symm]
  refine ti_mi hx hb hr hlocks (fun Q ret => ?_)
  have hl := lv_entry [.ref a0, .int x1, .int x2] (n := 3) (Nat.le_of_ble_eq_true rfl)
  rw [lg_entry_eq]
  generalize (lg_sl [.ref a0, .int x1, .int x2] ++ List.replicate (3 - (lg_sl [.ref a0, .int x1, .int x2]).length) Slot.unset).toArray = ls at hl ⊢
  have hl : lv_has ls 3 [(0, .ref a0), (1, .int x1), (2, .int x2)] := hl
  have hS : va_S (pA Y) s.heap s.heap [] := va_S.rf
  refine lv_aload_n hx hb dX9_knows_0 rfl (lv_at hl 0 rfl) ?_
  refine lv_iload_n hx hb dX9_knows_1 rfl (lv_at hl 1 rfl) ?_
  refine lv_iload_n hx hb dX9_knows_2 rfl (lv_at hl 2 rfl) ?_
  refine ti_calli (va_runV (As := [.int x1, .int x2]) (rest := []) ⟨hx, hb, hml, hown, hts⟩ (t_X9_arePair l hT ha0 (iv_w hx1 (by decide)) (iv_w hx2 (by decide))) (cwV 2 hts (good_V kw_529 kw_530 kw_531 kw_2 kw_532) rfl rfl rfl (by decide +kernel) ⟨by rw [hR]; decide, by rw [hR]; decide⟩) (ti_preV hK hT ha0 rfl rfl) rfl rfl hl.1 rfl (lv_room (Nat.le_of_ble_eq_true rfl)) dX9_knows_3 ⟨Nat.zero_le _, Nat.zero_le _⟩) hS (fun _ h => h) (fun v3 H1 locs hB hS _ _ => ?_)
  obtain ⟨hH, hv3⟩ := hB
  rw [hH] at hS ⊢
  refine lv_if_eq (tgt := 27) hx hb dX9_knows_6 (by decide) (fun c6 => ?_) (fun c6 => ?_)
  · skip
    have kl0 : (0 : Int32).toInt = 0 := by decide
    have f6 := i_eq c6
    refine lv_ldc (v := (-2000000000)) hx hb hown (hts _ kw_1003) dX9_knows_27 ?_
    exact ret _ _ _ _ _ dX9_knows_29 (⟨rfl, iv_w (iv_c (x := (-2000000000 : Int32)) (k := (-2000000000)) (by decide)) (by decide)⟩) hS
  · skip
    have kl0 : (0 : Int32).toInt = 0 := by decide
    have f6 := i_ne c6
    exact (iv_no (show iv v3 1 (-1) from iv_nel hv3 (iv_c (x := (0 : Int32)) (k := 0) (by decide)) c6 (by decide)) (by decide)).elim
set_option maxHeartbeats 4000000 in
set_option maxRecDepth 100000 in
theorem t_X9_lend (l : Launch) {D : va_G} {c0 : Nat → ClassId} {Y : Nat → Option Nat} {H : Heap} (hT : TI D vwCl (tysOf c0) (RT1 false) Y H) {a0 : Nat} (ha0 : Y a0 = some 9) {x1 : Int32} (hx1 : iv x1 (-2147483648) 2147483647) {x2 : Int32} (hx2 : iv x2 (-2147483648) 2147483647) {x3 : Int32} (hx3 : iv x3 (-2147483648) 2147483647) : Met l yX9_lend (wz yX9_lend cX9_lend 5 (some .int)) { frames := 2, cells := 0, slots := 0, locals := 44 } (TP D vwCl (tysOf c0) H [.ref a0, .int x1, .int x2, .int x3]) (TQi (fun x H' => H' = H ∧ iv x (-2) (-2)) Y) 0 0 (pA Y) := by
  refine Met.ofW (cc := cX9_lend) (maxL := 5) (ret := (some .int)) (by decide) rfl ?_
  intro p e s m args below meth c s₁ B hml hv
  obtain ⟨rfl, rfl, hK⟩ := hv
  have hx := B.exec
  have hb := B.bytes
  have hr := B.returns
  have hts : ∀ w ∈ wq, w.before _ s = true := fun w h => atoms_spec (ws := wz yX9_lend cX9_lend 5 (some .int)) B.pre w (List.mem_cons_of_mem _ h)
  have hown : s.vm.findClass RX9 = some m.cls := findClass_of_methodNamed B.named
  have hlocks := B.notSynchronized
  obtain ⟨R, hR⟩ : ∃ R : Room, R = ({ frames := 2, cells := 0, slots := 0, locals := 44 } : Room) := ⟨_, rfl⟩
  rw [show (headSpec (wz yX9_lend cX9_lend 5 (some .int)) { frames := 2, cells := 0, slots := 0, locals := 44 }).room = R from hR.symm]
  refine ti_mi hx hb hr hlocks (fun Q ret => ?_)
  have hl := lv_entry [.ref a0, .int x1, .int x2, .int x3] (n := 5) (Nat.le_of_ble_eq_true rfl)
  rw [lg_entry_eq]
  generalize (lg_sl [.ref a0, .int x1, .int x2, .int x3] ++ List.replicate (5 - (lg_sl [.ref a0, .int x1, .int x2, .int x3]).length) Slot.unset).toArray = ls at hl ⊢
  have hl : lv_has ls 5 [(0, .ref a0), (1, .int x1), (2, .int x2), (3, .int x3)] := hl
  have hS : va_S (pA Y) s.heap s.heap [] := va_S.rf
  refine lv_aload_n hx hb dX9_lend_0 rfl (lv_at hl 0 rfl) ?_
  refine lv_iload_n hx hb dX9_lend_1 rfl (lv_at hl 1 rfl) ?_
  refine lv_iload_n hx hb dX9_lend_2 rfl (lv_at hl 2 rfl) ?_
  refine ti_calli (va_runV (As := [.int x1, .int x2]) (rest := []) ⟨hx, hb, hml, hown, hts⟩ (t_X9_arePair l hT ha0 (iv_w hx1 (by decide)) (iv_w hx2 (by decide))) (cwV 2 hts (good_V kw_529 kw_530 kw_531 kw_2 kw_532) rfl rfl rfl (by decide +kernel) ⟨by rw [hR]; decide, by rw [hR]; decide⟩) (ti_preV hK hT ha0 rfl rfl) rfl rfl hl.1 rfl (lv_room (Nat.le_of_ble_eq_true rfl)) dX9_lend_3 ⟨Nat.zero_le _, Nat.zero_le _⟩) hS (fun _ h => h) (fun v3 H1 locs hB hS _ _ => ?_)
  obtain ⟨hH, hv3⟩ := hB
  rw [hH] at hS ⊢
  refine lv_if_eq (tgt := 20) hx hb dX9_lend_6 (by decide) (fun c6 => ?_) (fun c6 => ?_)
  · skip
    have kl0 : (0 : Int32).toInt = 0 := by decide
    have f6 := i_eq c6
    refine lv_bipush (v := (-2)) hx hb dX9_lend_20 (by decide) ?_
    exact ret _ _ _ _ _ dX9_lend_22 (⟨rfl, iv_w (iv_c (x := (-2 : Int32)) (k := (-2)) (by decide)) (by decide)⟩) hS
  · skip
    have kl0 : (0 : Int32).toInt = 0 := by decide
    have f6 := i_ne c6
    exact (iv_no (show iv v3 1 (-1) from iv_nel hv3 (iv_c (x := (0 : Int32)) (k := 0) (by decide)) c6 (by decide)) (by decide)).elim
set_option maxHeartbeats 4000000 in
set_option maxRecDepth 100000 in
theorem t_X9_round (l : Launch) {D : va_G} {c0 : Nat → ClassId} {Y : Nat → Option Nat} {H : Heap} (hT : TI D vwCl (tysOf c0) (RT1 false) Y H) {a0 : Nat} (ha0 : Y a0 = some 9) {x1 : Int32} (hx1 : iv x1 (-2147483648) 2147483647) {x2 : Int32} (hx2 : iv x2 (-2147483648) 2147483647) : Met l yX9_round (wz yX9_round cX9_round 4 (some .int)) { frames := 2, cells := 0, slots := 0, locals := 44 } (TP D vwCl (tysOf c0) H [.ref a0, .int x1, .int x2]) (TQi (fun x H' => H' = H ∧ iv x (-2) (-2)) Y) 0 0 (pA Y) := by
  refine Met.ofW (cc := cX9_round) (maxL := 4) (ret := (some .int)) (by decide) rfl ?_
  intro p e s m args below meth c s₁ B hml hv
  obtain ⟨rfl, rfl, hK⟩ := hv
  have hx := B.exec
  have hb := B.bytes
  have hr := B.returns
  have hts : ∀ w ∈ wq, w.before _ s = true := fun w h => atoms_spec (ws := wz yX9_round cX9_round 4 (some .int)) B.pre w (List.mem_cons_of_mem _ h)
  have hown : s.vm.findClass RX9 = some m.cls := findClass_of_methodNamed B.named
  have hlocks := B.notSynchronized
  obtain ⟨R, hR⟩ : ∃ R : Room, R = ({ frames := 2, cells := 0, slots := 0, locals := 44 } : Room) := ⟨_, rfl⟩
  rw [show (headSpec (wz yX9_round cX9_round 4 (some .int)) { frames := 2, cells := 0, slots := 0, locals := 44 }).room = R from hR.symm]
  refine ti_mi hx hb hr hlocks (fun Q ret => ?_)
  have hl := lv_entry [.ref a0, .int x1, .int x2] (n := 4) (Nat.le_of_ble_eq_true rfl)
  rw [lg_entry_eq]
  generalize (lg_sl [.ref a0, .int x1, .int x2] ++ List.replicate (4 - (lg_sl [.ref a0, .int x1, .int x2]).length) Slot.unset).toArray = ls at hl ⊢
  have hl : lv_has ls 4 [(0, .ref a0), (1, .int x1), (2, .int x2)] := hl
  have hS : va_S (pA Y) s.heap s.heap [] := va_S.rf
  refine lv_aload_n hx hb dX9_round_0 rfl (lv_at hl 0 rfl) ?_
  refine lv_iload_n hx hb dX9_round_1 rfl (lv_at hl 1 rfl) ?_
  refine lv_iload_n hx hb dX9_round_2 rfl (lv_at hl 2 rfl) ?_
  refine ti_calli (va_runV (As := [.int x1, .int x2]) (rest := []) ⟨hx, hb, hml, hown, hts⟩ (t_X9_arePair l hT ha0 (iv_w hx1 (by decide)) (iv_w hx2 (by decide))) (cwV 2 hts (good_V kw_529 kw_530 kw_531 kw_2 kw_532) rfl rfl rfl (by decide +kernel) ⟨by rw [hR]; decide, by rw [hR]; decide⟩) (ti_preV hK hT ha0 rfl rfl) rfl rfl hl.1 rfl (lv_room (Nat.le_of_ble_eq_true rfl)) dX9_round_3 ⟨Nat.zero_le _, Nat.zero_le _⟩) hS (fun _ h => h) (fun v3 H1 locs hB hS _ _ => ?_)
  obtain ⟨hH, hv3⟩ := hB
  rw [hH] at hS ⊢
  refine lv_if_ne (tgt := 12) hx hb dX9_round_6 (by decide) (fun c6 => ?_) (fun c6 => ?_)
  · skip
    have kl0 : (0 : Int32).toInt = 0 := by decide
    have f6 := i_ne c6
    exact (iv_no (show iv v3 1 (-1) from iv_nel hv3 (iv_c (x := (0 : Int32)) (k := 0) (by decide)) c6 (by decide)) (by decide)).elim
  · skip
    have kl0 : (0 : Int32).toInt = 0 := by decide
    have f6 := i_eq c6
    refine lv_bipush (v := (-2)) hx hb dX9_round_9 (by decide) ?_
    exact ret _ _ _ _ _ dX9_round_11 (⟨rfl, iv_w (iv_c (x := (-2 : Int32)) (k := (-2)) (by decide)) (by decide)⟩) hS
set_option maxHeartbeats 4000000 in
set_option maxRecDepth 100000 in
theorem t_X9_hides (l : Launch) {D : va_G} {c0 : Nat → ClassId} {Y : Nat → Option Nat} {H : Heap} (hT : TI D vwCl (tysOf c0) (RT1 false) Y H) {a0 : Nat} (ha0 : Y a0 = some 9) {x1 : Int32} (hx1 : iv x1 (-2147483648) 2147483647) {x2 : Int32} (hx2 : iv x2 (-2147483648) 2147483647) : Met l yX9_hides (wz yX9_hides cX9_hides 6 (some .int)) { frames := 2, cells := 0, slots := 0, locals := 44 } (TP D vwCl (tysOf c0) H [.ref a0, .int x1, .int x2]) (TQi (fun x H' => H' = H ∧ iv x (-2000000000) (-2000000000)) Y) 0 0 (pA Y) := by
  refine Met.ofW (cc := cX9_hides) (maxL := 6) (ret := (some .int)) (by decide) rfl ?_
  intro p e s m args below meth c s₁ B hml hv
  obtain ⟨rfl, rfl, hK⟩ := hv
  have hx := B.exec
  have hb := B.bytes
  have hr := B.returns
  have hts : ∀ w ∈ wq, w.before _ s = true := fun w h => atoms_spec (ws := wz yX9_hides cX9_hides 6 (some .int)) B.pre w (List.mem_cons_of_mem _ h)
  have hown : s.vm.findClass RX9 = some m.cls := findClass_of_methodNamed B.named
  have hlocks := B.notSynchronized
  obtain ⟨R, hR⟩ : ∃ R : Room, R = ({ frames := 2, cells := 0, slots := 0, locals := 44 } : Room) := ⟨_, rfl⟩
  rw [show (headSpec (wz yX9_hides cX9_hides 6 (some .int)) { frames := 2, cells := 0, slots := 0, locals := 44 }).room = R from hR.symm]
  refine ti_mi hx hb hr hlocks (fun Q ret => ?_)
  have hl := lv_entry [.ref a0, .int x1, .int x2] (n := 6) (Nat.le_of_ble_eq_true rfl)
  rw [lg_entry_eq]
  generalize (lg_sl [.ref a0, .int x1, .int x2] ++ List.replicate (6 - (lg_sl [.ref a0, .int x1, .int x2]).length) Slot.unset).toArray = ls at hl ⊢
  have hl : lv_has ls 6 [(0, .ref a0), (1, .int x1), (2, .int x2)] := hl
  have hS : va_S (pA Y) s.heap s.heap [] := va_S.rf
  refine lv_aload_n hx hb dX9_hides_0 rfl (lv_at hl 0 rfl) ?_
  refine lv_iload_n hx hb dX9_hides_1 rfl (lv_at hl 1 rfl) ?_
  refine lv_iload_n hx hb dX9_hides_2 rfl (lv_at hl 2 rfl) ?_
  refine ti_calli (va_runV (As := [.int x1, .int x2]) (rest := []) ⟨hx, hb, hml, hown, hts⟩ (t_X9_canHide l hT ha0 (iv_w hx1 (by decide)) (iv_w hx2 (by decide))) (cwV 2 hts (good_V kw_1330 kw_1331 kw_1332 kw_2 kw_1333) rfl rfl rfl (by decide +kernel) ⟨by rw [hR]; decide, by rw [hR]; decide⟩) (ti_preV hK hT ha0 rfl rfl) rfl rfl hl.1 rfl (lv_room (Nat.le_of_ble_eq_true rfl)) dX9_hides_3 ⟨Nat.zero_le _, Nat.zero_le _⟩) hS (fun _ h => h) (fun v3 H1 locs hB hS _ _ => ?_)
  obtain ⟨hH, hv3⟩ := hB
  rw [hH] at hS ⊢
  refine lv_if_ne (tgt := 12) hx hb dX9_hides_6 (by decide) (fun c6 => ?_) (fun c6 => ?_)
  · skip
    have kl0 : (0 : Int32).toInt = 0 := by decide
    have f6 := i_ne c6
    exact (iv_no (show iv v3 1 (-1) from iv_nel hv3 (iv_c (x := (0 : Int32)) (k := 0) (by decide)) c6 (by decide)) (by decide)).elim
  · skip
    have kl0 : (0 : Int32).toInt = 0 := by decide
    have f6 := i_eq c6
    refine lv_ldc (v := (-2000000000)) hx hb hown (hts _ kw_1003) dX9_hides_9 ?_
    exact ret _ _ _ _ _ dX9_hides_11 (⟨rfl, iv_w (iv_c (x := (-2000000000 : Int32)) (k := (-2000000000)) (by decide)) (by decide)⟩) hS
set_option maxHeartbeats 4000000 in
set_option maxRecDepth 100000 in
theorem t_X9_edge (l : Launch) {D : va_G} {c0 : Nat → ClassId} {Y : Nat → Option Nat} {H : Heap} (hT : TI D vwCl (tysOf c0) (RT1 false) Y H) {a0 : Nat} (ha0 : Y a0 = some 9) {x1 : Int32} (hx1 : iv x1 (-2147483648) 2147483647) {x2 : Int32} (hx2 : iv x2 (-2147483648) 2147483647) : Met l yX9_edge (wz yX9_edge cX9_edge 8 (some .int)) { frames := 2, cells := 0, slots := 0, locals := 44 } (TP D vwCl (tysOf c0) H [.ref a0, .int x1, .int x2]) (TQi (fun x H' => H' = H ∧ iv x (-2) (-2)) Y) 0 0 (pA Y) := by
  refine Met.ofW (cc := cX9_edge) (maxL := 8) (ret := (some .int)) (by decide) rfl ?_
  intro p e s m args below meth c s₁ B hml hv
  obtain ⟨rfl, rfl, hK⟩ := hv
  have hx := B.exec
  have hb := B.bytes
  have hr := B.returns
  have hts : ∀ w ∈ wq, w.before _ s = true := fun w h => atoms_spec (ws := wz yX9_edge cX9_edge 8 (some .int)) B.pre w (List.mem_cons_of_mem _ h)
  have hown : s.vm.findClass RX9 = some m.cls := findClass_of_methodNamed B.named
  have hlocks := B.notSynchronized
  obtain ⟨R, hR⟩ : ∃ R : Room, R = ({ frames := 2, cells := 0, slots := 0, locals := 44 } : Room) := ⟨_, rfl⟩
  rw [show (headSpec (wz yX9_edge cX9_edge 8 (some .int)) { frames := 2, cells := 0, slots := 0, locals := 44 }).room = R from hR.symm]
  refine ti_mi hx hb hr hlocks (fun Q ret => ?_)
  have hl := lv_entry [.ref a0, .int x1, .int x2] (n := 8) (Nat.le_of_ble_eq_true rfl)
  rw [lg_entry_eq]
  generalize (lg_sl [.ref a0, .int x1, .int x2] ++ List.replicate (8 - (lg_sl [.ref a0, .int x1, .int x2]).length) Slot.unset).toArray = ls at hl ⊢
  have hl : lv_has ls 8 [(0, .ref a0), (1, .int x1), (2, .int x2)] := hl
  have hS : va_S (pA Y) s.heap s.heap [] := va_S.rf
  refine lv_aload_n hx hb dX9_edge_0 rfl (lv_at hl 0 rfl) ?_
  refine lv_iload_n hx hb dX9_edge_1 rfl (lv_at hl 1 rfl) ?_
  refine lv_iload_n hx hb dX9_edge_2 rfl (lv_at hl 2 rfl) ?_
  refine ti_calli (va_runV (As := [.int x1, .int x2]) (rest := []) ⟨hx, hb, hml, hown, hts⟩ (t_X9_canHide l hT ha0 (iv_w hx1 (by decide)) (iv_w hx2 (by decide))) (cwV 2 hts (good_V kw_1330 kw_1331 kw_1332 kw_2 kw_1333) rfl rfl rfl (by decide +kernel) ⟨by rw [hR]; decide, by rw [hR]; decide⟩) (ti_preV hK hT ha0 rfl rfl) rfl rfl hl.1 rfl (lv_room (Nat.le_of_ble_eq_true rfl)) dX9_edge_3 ⟨Nat.zero_le _, Nat.zero_le _⟩) hS (fun _ h => h) (fun v3 H1 locs hB hS _ _ => ?_)
  obtain ⟨hH, hv3⟩ := hB
  rw [hH] at hS ⊢
  refine lv_if_ne (tgt := 12) hx hb dX9_edge_6 (by decide) (fun c6 => ?_) (fun c6 => ?_)
  · skip
    have kl0 : (0 : Int32).toInt = 0 := by decide
    have f6 := i_ne c6
    exact (iv_no (show iv v3 1 (-1) from iv_nel hv3 (iv_c (x := (0 : Int32)) (k := 0) (by decide)) c6 (by decide)) (by decide)).elim
  · skip
    have kl0 : (0 : Int32).toInt = 0 := by decide
    have f6 := i_eq c6
    refine lv_bipush (v := (-2)) hx hb dX9_edge_9 (by decide) ?_
    exact ret _ _ _ _ _ dX9_edge_11 (⟨rfl, iv_w (iv_c (x := (-2 : Int32)) (k := (-2)) (by decide)) (by decide)⟩) hS
set_option maxHeartbeats 4000000 in
set_option maxRecDepth 100000 in
theorem t_X9_pays (l : Launch) {D : va_G} {c0 : Nat → ClassId} {Y : Nat → Option Nat} {H : Heap} (hT : TI D vwCl (tysOf c0) (RT1 false) Y H) {a0 : Nat} (ha0 : Y a0 = some 9) {x1 : Int32} (hx1 : iv x1 (-2147483648) 2147483647) {x2 : Int32} (hx2 : iv x2 (-2147483648) 2147483647) : Met l yX9_pays (wz yX9_pays cX9_pays 6 (some .int)) { frames := 1, cells := 0, slots := 0, locals := 22 } (TP D vwCl (tysOf c0) H [.ref a0, .int x1, .int x2]) (TQi (fun x H' => H' = H ∧ iv x (-2) (-2)) Y) 0 0 (pA Y) := by
  refine Met.ofW (cc := cX9_pays) (maxL := 6) (ret := (some .int)) (by decide) rfl ?_
  intro p e s m args below meth c s₁ B hml hv
  obtain ⟨rfl, rfl, hK⟩ := hv
  have hx := B.exec
  have hb := B.bytes
  have hr := B.returns
  have hts : ∀ w ∈ wq, w.before _ s = true := fun w h => atoms_spec (ws := wz yX9_pays cX9_pays 6 (some .int)) B.pre w (List.mem_cons_of_mem _ h)
  have hown : s.vm.findClass RX9 = some m.cls := findClass_of_methodNamed B.named
  have hlocks := B.notSynchronized
  obtain ⟨R, hR⟩ : ∃ R : Room, R = ({ frames := 1, cells := 0, slots := 0, locals := 22 } : Room) := ⟨_, rfl⟩
  rw [show (headSpec (wz yX9_pays cX9_pays 6 (some .int)) { frames := 1, cells := 0, slots := 0, locals := 22 }).room = R from hR.symm]
  refine ti_mi hx hb hr hlocks (fun Q ret => ?_)
  have hl := lv_entry [.ref a0, .int x1, .int x2] (n := 6) (Nat.le_of_ble_eq_true rfl)
  rw [lg_entry_eq]
  generalize (lg_sl [.ref a0, .int x1, .int x2] ++ List.replicate (6 - (lg_sl [.ref a0, .int x1, .int x2]).length) Slot.unset).toArray = ls at hl ⊢
  have hl : lv_has ls 6 [(0, .ref a0), (1, .int x1), (2, .int x2)] := hl
  have hS : va_S (pA Y) s.heap s.heap [] := va_S.rf
  refine lv_aload_n hx hb dX9_pays_0 rfl (lv_at hl 0 rfl) ?_
  refine lv_iload_n hx hb dX9_pays_1 rfl (lv_at hl 1 rfl) ?_
  refine lv_i2l hx hb dX9_pays_2 rfl ?_
  refine lv_topl (fun v2 e2 => ?_)
  have hv2 : jv v2 (-2147483648) 2147483647 := by rw [e2]; exact jv_i hx1
  have t2 : v2.toInt = x1.toInt := by rw [e2]; exact jv_e _
  refine ti_calli (va_runV (As := [.long v2]) (rest := []) ⟨hx, hb, hml, hown, hts⟩ (t_X9_isPerson l hT ha0 (jv_w hv2 (by decide))) (cwV 1 hts (good_V kw_476 kw_477 kw_478 kw_2 kw_479) rfl rfl rfl (by decide +kernel) ⟨by rw [hR]; decide, by rw [hR]; decide⟩) (ti_preV hK hT ha0 rfl rfl) rfl rfl hl.1 rfl (lv_room (Nat.le_of_ble_eq_true rfl)) dX9_pays_3 ⟨Nat.zero_le _, Nat.zero_le _⟩) hS (fun _ h => h) (fun v3 H1 locs hB hS _ _ => ?_)
  obtain ⟨hH, hv3⟩ := hB
  rw [hH] at hS ⊢
  refine lv_if_eq (tgt := 16) hx hb dX9_pays_6 (by decide) (fun c6 => ?_) (fun c6 => ?_)
  · skip
    have kl0 : (0 : Int32).toInt = 0 := by decide
    have f6 := i_eq c6
    refine lv_bipush (v := (-2)) hx hb dX9_pays_16 (by decide) ?_
    exact ret _ _ _ _ _ dX9_pays_18 (⟨rfl, iv_w (iv_c (x := (-2 : Int32)) (k := (-2)) (by decide)) (by decide)⟩) hS
  · skip
    have kl0 : (0 : Int32).toInt = 0 := by decide
    have f6 := i_ne c6
    exact (iv_no (show iv v3 1 (-1) from iv_nel hv3 (iv_c (x := (0 : Int32)) (k := 0) (by decide)) c6 (by decide)) (by decide)).elim
set_option maxHeartbeats 4000000 in
set_option maxRecDepth 100000 in
theorem t_X9_quiet (l : Launch) {D : va_G} {c0 : Nat → ClassId} {Y : Nat → Option Nat} {H : Heap} (hT : TI D vwCl (tysOf c0) (RT1 false) Y H) {a0 : Nat} (ha0 : Y a0 = some 9) {x1 : Int32} (hx1 : iv x1 (-2147483648) 2147483647) {x2 : Int32} (hx2 : iv x2 (-2147483648) 2147483647) : Met l yX9_quiet (wz yX9_quiet cX9_quiet 7 (some .int)) { frames := 2, cells := 0, slots := 0, locals := 41 } (TP D vwCl (tysOf c0) H [.ref a0, .int x1, .int x2]) (TQi (fun x H' => H' = H ∧ iv x (-2) (-2)) Y) 0 0 (pA Y) := by
  refine Met.ofW (cc := cX9_quiet) (maxL := 7) (ret := (some .int)) (by decide) rfl ?_
  intro p e s m args below meth c s₁ B hml hv
  obtain ⟨rfl, rfl, hK⟩ := hv
  have hx := B.exec
  have hb := B.bytes
  have hr := B.returns
  have hts : ∀ w ∈ wq, w.before _ s = true := fun w h => atoms_spec (ws := wz yX9_quiet cX9_quiet 7 (some .int)) B.pre w (List.mem_cons_of_mem _ h)
  have hown : s.vm.findClass RX9 = some m.cls := findClass_of_methodNamed B.named
  have hlocks := B.notSynchronized
  obtain ⟨R, hR⟩ : ∃ R : Room, R = ({ frames := 2, cells := 0, slots := 0, locals := 41 } : Room) := ⟨_, rfl⟩
  rw [show (headSpec (wz yX9_quiet cX9_quiet 7 (some .int)) { frames := 2, cells := 0, slots := 0, locals := 41 }).room = R from hR.symm]
  refine ti_mi hx hb hr hlocks (fun Q ret => ?_)
  have hl := lv_entry [.ref a0, .int x1, .int x2] (n := 7) (Nat.le_of_ble_eq_true rfl)
  rw [lg_entry_eq]
  generalize (lg_sl [.ref a0, .int x1, .int x2] ++ List.replicate (7 - (lg_sl [.ref a0, .int x1, .int x2]).length) Slot.unset).toArray = ls at hl ⊢
  have hl : lv_has ls 7 [(0, .ref a0), (1, .int x1), (2, .int x2)] := hl
  have hS : va_S (pA Y) s.heap s.heap [] := va_S.rf
  refine lv_aload_n hx hb dX9_quiet_0 rfl (lv_at hl 0 rfl) ?_
  refine lv_iload_n hx hb dX9_quiet_1 rfl (lv_at hl 1 rfl) ?_
  refine ti_calli (va_runV (As := [.int x1]) (rest := []) ⟨hx, hb, hml, hown, hts⟩ (t_X9_canPass l hT ha0 (iv_w hx1 (by decide))) (cwV 1 hts (good_V kw_833 kw_834 kw_835 kw_2 kw_836) rfl rfl rfl (by decide +kernel) ⟨by rw [hR]; decide, by rw [hR]; decide⟩) (ti_preV hK hT ha0 rfl rfl) rfl rfl hl.1 rfl (lv_room (Nat.le_of_ble_eq_true rfl)) dX9_quiet_2 ⟨Nat.zero_le _, Nat.zero_le _⟩) hS (fun _ h => h) (fun v2 H1 locs hB hS _ _ => ?_)
  obtain ⟨hH, hv2⟩ := hB
  rw [hH] at hS ⊢
  refine lv_if_eq (tgt := 17) hx hb dX9_quiet_5 (by decide) (fun c5 => ?_) (fun c5 => ?_)
  · skip
    have kl0 : (0 : Int32).toInt = 0 := by decide
    have f5 := i_eq c5
    refine lv_bipush (v := (-2)) hx hb dX9_quiet_17 (by decide) ?_
    exact ret _ _ _ _ _ dX9_quiet_19 (⟨rfl, iv_w (iv_c (x := (-2 : Int32)) (k := (-2)) (by decide)) (by decide)⟩) hS
  · skip
    have kl0 : (0 : Int32).toInt = 0 := by decide
    have f5 := i_ne c5
    exact (iv_no (show iv v2 1 (-1) from iv_nel hv2 (iv_c (x := (0 : Int32)) (k := 0) (by decide)) c5 (by decide)) (by decide)).elim
set_option maxHeartbeats 4000000 in
set_option maxRecDepth 100000 in
theorem t_X9_again (l : Launch) {D : va_G} {c0 : Nat → ClassId} {Y : Nat → Option Nat} {H : Heap} (hT : TI D vwCl (tysOf c0) (RT1 false) Y H) {a0 : Nat} (ha0 : Y a0 = some 9) {x1 : Int32} (hx1 : iv x1 (-2147483648) 2147483647) : Met l yX9_again (wz yX9_again cX9_again 4 (some .int)) { frames := 2, cells := 0, slots := 0, locals := 41 } (TP D vwCl (tysOf c0) H [.ref a0, .int x1]) (TQi (fun x H' => H' = H ∧ iv x (-2) (-2)) Y) 0 0 (pA Y) := by
  refine Met.ofW (cc := cX9_again) (maxL := 4) (ret := (some .int)) (by decide) rfl ?_
  intro p e s m args below meth c s₁ B hml hv
  obtain ⟨rfl, rfl, hK⟩ := hv
  have hx := B.exec
  have hb := B.bytes
  have hr := B.returns
  have hts : ∀ w ∈ wq, w.before _ s = true := fun w h => atoms_spec (ws := wz yX9_again cX9_again 4 (some .int)) B.pre w (List.mem_cons_of_mem _ h)
  have hown : s.vm.findClass RX9 = some m.cls := findClass_of_methodNamed B.named
  have hlocks := B.notSynchronized
  obtain ⟨R, hR⟩ : ∃ R : Room, R = ({ frames := 2, cells := 0, slots := 0, locals := 41 } : Room) := ⟨_, rfl⟩
  rw [show (headSpec (wz yX9_again cX9_again 4 (some .int)) { frames := 2, cells := 0, slots := 0, locals := 41 }).room = R from hR.symm]
  refine ti_mi hx hb hr hlocks (fun Q ret => ?_)
  have hl := lv_entry [.ref a0, .int x1] (n := 4) (Nat.le_of_ble_eq_true rfl)
  rw [lg_entry_eq]
  generalize (lg_sl [.ref a0, .int x1] ++ List.replicate (4 - (lg_sl [.ref a0, .int x1]).length) Slot.unset).toArray = ls at hl ⊢
  have hl : lv_has ls 4 [(0, .ref a0), (1, .int x1)] := hl
  have hS : va_S (pA Y) s.heap s.heap [] := va_S.rf
  refine lv_aload_n hx hb dX9_again_0 rfl (lv_at hl 0 rfl) ?_
  refine lv_iload_n hx hb dX9_again_1 rfl (lv_at hl 1 rfl) ?_
  refine ti_calli (va_runV (As := [.int x1]) (rest := []) ⟨hx, hb, hml, hown, hts⟩ (t_X9_canPass l hT ha0 (iv_w hx1 (by decide))) (cwV 1 hts (good_V kw_833 kw_834 kw_835 kw_2 kw_836) rfl rfl rfl (by decide +kernel) ⟨by rw [hR]; decide, by rw [hR]; decide⟩) (ti_preV hK hT ha0 rfl rfl) rfl rfl hl.1 rfl (lv_room (Nat.le_of_ble_eq_true rfl)) dX9_again_2 ⟨Nat.zero_le _, Nat.zero_le _⟩) hS (fun _ h => h) (fun v2 H1 locs hB hS _ _ => ?_)
  obtain ⟨hH, hv2⟩ := hB
  rw [hH] at hS ⊢
  refine lv_if_ne (tgt := 11) hx hb dX9_again_5 (by decide) (fun c5 => ?_) (fun c5 => ?_)
  · skip
    have kl0 : (0 : Int32).toInt = 0 := by decide
    have f5 := i_ne c5
    exact (iv_no (show iv v2 1 (-1) from iv_nel hv2 (iv_c (x := (0 : Int32)) (k := 0) (by decide)) c5 (by decide)) (by decide)).elim
  · skip
    have kl0 : (0 : Int32).toInt = 0 := by decide
    have f5 := i_eq c5
    refine lv_bipush (v := (-2)) hx hb dX9_again_8 (by decide) ?_
    exact ret _ _ _ _ _ dX9_again_10 (⟨rfl, iv_w (iv_c (x := (-2 : Int32)) (k := (-2)) (by decide)) (by decide)⟩) hS
set_option maxHeartbeats 4000000 in
set_option maxRecDepth 100000 in
theorem t_X9_alike (l : Launch) {D : va_G} {c0 : Nat → ClassId} {Y : Nat → Option Nat} {H : Heap} (hT : TI D vwCl (tysOf c0) (RT1 false) Y H) {a0 : Nat} (ha0 : Y a0 = some 9) {x1 : Int32} (hx1 : iv x1 (-2147483648) 2147483647) : Met l yX9_alike (wz yX9_alike cX9_alike 4 (some .int)) { frames := 2, cells := 0, slots := 0, locals := 41 } (TP D vwCl (tysOf c0) H [.ref a0, .int x1]) (TQi (fun x H' => H' = H ∧ iv x (-2) (-2)) Y) 0 0 (pA Y) := by
  refine Met.ofW (cc := cX9_alike) (maxL := 4) (ret := (some .int)) (by decide) rfl ?_
  intro p e s m args below meth c s₁ B hml hv
  obtain ⟨rfl, rfl, hK⟩ := hv
  have hx := B.exec
  have hb := B.bytes
  have hr := B.returns
  have hts : ∀ w ∈ wq, w.before _ s = true := fun w h => atoms_spec (ws := wz yX9_alike cX9_alike 4 (some .int)) B.pre w (List.mem_cons_of_mem _ h)
  have hown : s.vm.findClass RX9 = some m.cls := findClass_of_methodNamed B.named
  have hlocks := B.notSynchronized
  obtain ⟨R, hR⟩ : ∃ R : Room, R = ({ frames := 2, cells := 0, slots := 0, locals := 41 } : Room) := ⟨_, rfl⟩
  rw [show (headSpec (wz yX9_alike cX9_alike 4 (some .int)) { frames := 2, cells := 0, slots := 0, locals := 41 }).room = R from hR.symm]
  refine ti_mi hx hb hr hlocks (fun Q ret => ?_)
  have hl := lv_entry [.ref a0, .int x1] (n := 4) (Nat.le_of_ble_eq_true rfl)
  rw [lg_entry_eq]
  generalize (lg_sl [.ref a0, .int x1] ++ List.replicate (4 - (lg_sl [.ref a0, .int x1]).length) Slot.unset).toArray = ls at hl ⊢
  have hl : lv_has ls 4 [(0, .ref a0), (1, .int x1)] := hl
  have hS : va_S (pA Y) s.heap s.heap [] := va_S.rf
  refine lv_aload_n hx hb dX9_alike_0 rfl (lv_at hl 0 rfl) ?_
  refine lv_iload_n hx hb dX9_alike_1 rfl (lv_at hl 1 rfl) ?_
  refine ti_calli (va_runV (As := [.int x1]) (rest := []) ⟨hx, hb, hml, hown, hts⟩ (t_X9_canPass l hT ha0 (iv_w hx1 (by decide))) (cwV 1 hts (good_V kw_833 kw_834 kw_835 kw_2 kw_836) rfl rfl rfl (by decide +kernel) ⟨by rw [hR]; decide, by rw [hR]; decide⟩) (ti_preV hK hT ha0 rfl rfl) rfl rfl hl.1 rfl (lv_room (Nat.le_of_ble_eq_true rfl)) dX9_alike_2 ⟨Nat.zero_le _, Nat.zero_le _⟩) hS (fun _ h => h) (fun v2 H1 locs hB hS _ _ => ?_)
  obtain ⟨hH, hv2⟩ := hB
  rw [hH] at hS ⊢
  refine lv_if_ne (tgt := 11) hx hb dX9_alike_5 (by decide) (fun c5 => ?_) (fun c5 => ?_)
  · skip
    have kl0 : (0 : Int32).toInt = 0 := by decide
    have f5 := i_ne c5
    exact (iv_no (show iv v2 1 (-1) from iv_nel hv2 (iv_c (x := (0 : Int32)) (k := 0) (by decide)) c5 (by decide)) (by decide)).elim
  · skip
    have kl0 : (0 : Int32).toInt = 0 := by decide
    have f5 := i_eq c5
    refine lv_bipush (v := (-2)) hx hb dX9_alike_8 (by decide) ?_
    exact ret _ _ _ _ _ dX9_alike_10 (⟨rfl, iv_w (iv_c (x := (-2 : Int32)) (k := (-2)) (by decide)) (by decide)⟩) hS
set_option maxHeartbeats 4000000 in
set_option maxRecDepth 100000 in
theorem t_X9_follows (l : Launch) {D : va_G} {c0 : Nat → ClassId} {Y : Nat → Option Nat} {H : Heap} (hT : TI D vwCl (tysOf c0) (RT1 false) Y H) {a0 : Nat} (ha0 : Y a0 = some 9) {x1 : Int32} (hx1 : iv x1 (-2147483648) 2147483647) {x2 : Int32} (hx2 : iv x2 (-2147483648) 2147483647) : Met l yX9_follows (wz yX9_follows cX9_follows 6 (some .int)) { frames := 1, cells := 0, slots := 0, locals := 22 } (TP D vwCl (tysOf c0) H [.ref a0, .int x1, .int x2]) (TQi (fun x H' => H' = H ∧ iv x (-2000000000) (-2000000000)) Y) 0 0 (pA Y) := by
  refine Met.ofW (cc := cX9_follows) (maxL := 6) (ret := (some .int)) (by decide) rfl ?_
  intro p e s m args below meth c s₁ B hml hv
  obtain ⟨rfl, rfl, hK⟩ := hv
  have hx := B.exec
  have hb := B.bytes
  have hr := B.returns
  have hts : ∀ w ∈ wq, w.before _ s = true := fun w h => atoms_spec (ws := wz yX9_follows cX9_follows 6 (some .int)) B.pre w (List.mem_cons_of_mem _ h)
  have hown : s.vm.findClass RX9 = some m.cls := findClass_of_methodNamed B.named
  have hlocks := B.notSynchronized
  obtain ⟨R, hR⟩ : ∃ R : Room, R = ({ frames := 1, cells := 0, slots := 0, locals := 22 } : Room) := ⟨_, rfl⟩
  rw [show (headSpec (wz yX9_follows cX9_follows 6 (some .int)) { frames := 1, cells := 0, slots := 0, locals := 22 }).room = R from hR.symm]
  refine ti_mi hx hb hr hlocks (fun Q ret => ?_)
  have hl := lv_entry [.ref a0, .int x1, .int x2] (n := 6) (Nat.le_of_ble_eq_true rfl)
  rw [lg_entry_eq]
  generalize (lg_sl [.ref a0, .int x1, .int x2] ++ List.replicate (6 - (lg_sl [.ref a0, .int x1, .int x2]).length) Slot.unset).toArray = ls at hl ⊢
  have hl : lv_has ls 6 [(0, .ref a0), (1, .int x1), (2, .int x2)] := hl
  have hS : va_S (pA Y) s.heap s.heap [] := va_S.rf
  refine lv_aload_n hx hb dX9_follows_0 rfl (lv_at hl 0 rfl) ?_
  refine lv_iload_n hx hb dX9_follows_1 rfl (lv_at hl 1 rfl) ?_
  refine lv_i2l hx hb dX9_follows_2 rfl ?_
  refine lv_topl (fun v2 e2 => ?_)
  have hv2 : jv v2 (-2147483648) 2147483647 := by rw [e2]; exact jv_i hx1
  have t2 : v2.toInt = x1.toInt := by rw [e2]; exact jv_e _
  refine ti_calli (va_runV (As := [.long v2]) (rest := []) ⟨hx, hb, hml, hown, hts⟩ (t_X9_isPerson l hT ha0 (jv_w hv2 (by decide))) (cwV 1 hts (good_V kw_476 kw_477 kw_478 kw_2 kw_479) rfl rfl rfl (by decide +kernel) ⟨by rw [hR]; decide, by rw [hR]; decide⟩) (ti_preV hK hT ha0 rfl rfl) rfl rfl hl.1 rfl (lv_room (Nat.le_of_ble_eq_true rfl)) dX9_follows_3 ⟨Nat.zero_le _, Nat.zero_le _⟩) hS (fun _ h => h) (fun v3 H1 locs hB hS _ _ => ?_)
  obtain ⟨hH, hv3⟩ := hB
  rw [hH] at hS ⊢
  refine lv_if_eq (tgt := 31) hx hb dX9_follows_6 (by decide) (fun c6 => ?_) (fun c6 => ?_)
  · skip
    have kl0 : (0 : Int32).toInt = 0 := by decide
    have f6 := i_eq c6
    refine lv_ldc (v := (-2000000000)) hx hb hown (hts _ kw_1003) dX9_follows_31 ?_
    exact ret _ _ _ _ _ dX9_follows_33 (⟨rfl, iv_w (iv_c (x := (-2000000000 : Int32)) (k := (-2000000000)) (by decide)) (by decide)⟩) hS
  · skip
    have kl0 : (0 : Int32).toInt = 0 := by decide
    have f6 := i_ne c6
    exact (iv_no (show iv v3 1 (-1) from iv_nel hv3 (iv_c (x := (0 : Int32)) (k := 0) (by decide)) c6 (by decide)) (by decide)).elim
set_option maxHeartbeats 4000000 in
set_option maxRecDepth 100000 in
theorem t_X9_plan (l : Launch) {D : va_G} {c0 : Nat → ClassId} {Y : Nat → Option Nat} {H : Heap} (hT : TI D vwCl (tysOf c0) (RT1 false) Y H) {a0 : Nat} (ha0 : Y a0 = some 9) {x1 : Int32} (hx1 : iv x1 (-2147483648) 2147483647) {x2 : Int32} (hx2 : iv x2 (-2147483648) 2147483647) {x3 : Int32} (hx3 : iv x3 (-2147483648) 2147483647) : Met l yX9_plan (wz yX9_plan cX9_plan 7 (some .int)) { frames := 1, cells := 0, slots := 0, locals := 22 } (TP D vwCl (tysOf c0) H [.ref a0, .int x1, .int x2, .int x3]) (TQi (fun x H' => H' = H ∧ iv x (-2000000000) (-2000000000)) Y) 0 0 (pA Y) := by
  refine Met.ofW (cc := cX9_plan) (maxL := 7) (ret := (some .int)) (by decide) rfl ?_
  intro p e s m args below meth c s₁ B hml hv
  obtain ⟨rfl, rfl, hK⟩ := hv
  have hx := B.exec
  have hb := B.bytes
  have hr := B.returns
  have hts : ∀ w ∈ wq, w.before _ s = true := fun w h => atoms_spec (ws := wz yX9_plan cX9_plan 7 (some .int)) B.pre w (List.mem_cons_of_mem _ h)
  have hown : s.vm.findClass RX9 = some m.cls := findClass_of_methodNamed B.named
  have hlocks := B.notSynchronized
  obtain ⟨R, hR⟩ : ∃ R : Room, R = ({ frames := 1, cells := 0, slots := 0, locals := 22 } : Room) := ⟨_, rfl⟩
  rw [show (headSpec (wz yX9_plan cX9_plan 7 (some .int)) { frames := 1, cells := 0, slots := 0, locals := 22 }).room = R from hR.symm]
  refine ti_mi hx hb hr hlocks (fun Q ret => ?_)
  have hl := lv_entry [.ref a0, .int x1, .int x2, .int x3] (n := 7) (Nat.le_of_ble_eq_true rfl)
  rw [lg_entry_eq]
  generalize (lg_sl [.ref a0, .int x1, .int x2, .int x3] ++ List.replicate (7 - (lg_sl [.ref a0, .int x1, .int x2, .int x3]).length) Slot.unset).toArray = ls at hl ⊢
  have hl : lv_has ls 7 [(0, .ref a0), (1, .int x1), (2, .int x2), (3, .int x3)] := hl
  have hS : va_S (pA Y) s.heap s.heap [] := va_S.rf
  refine lv_aload_n hx hb dX9_plan_0 rfl (lv_at hl 0 rfl) ?_
  refine lv_iload_n hx hb dX9_plan_1 rfl (lv_at hl 1 rfl) ?_
  refine lv_i2l hx hb dX9_plan_2 rfl ?_
  refine lv_topl (fun v2 e2 => ?_)
  have hv2 : jv v2 (-2147483648) 2147483647 := by rw [e2]; exact jv_i hx1
  have t2 : v2.toInt = x1.toInt := by rw [e2]; exact jv_e _
  refine ti_calli (va_runV (As := [.long v2]) (rest := []) ⟨hx, hb, hml, hown, hts⟩ (t_X9_isPerson l hT ha0 (jv_w hv2 (by decide))) (cwV 1 hts (good_V kw_476 kw_477 kw_478 kw_2 kw_479) rfl rfl rfl (by decide +kernel) ⟨by rw [hR]; decide, by rw [hR]; decide⟩) (ti_preV hK hT ha0 rfl rfl) rfl rfl hl.1 rfl (lv_room (Nat.le_of_ble_eq_true rfl)) dX9_plan_3 ⟨Nat.zero_le _, Nat.zero_le _⟩) hS (fun _ h => h) (fun v3 H1 locs hB hS _ _ => ?_)
  obtain ⟨hH, hv3⟩ := hB
  rw [hH] at hS ⊢
  refine lv_if_eq (tgt := 28) hx hb dX9_plan_6 (by decide) (fun c6 => ?_) (fun c6 => ?_)
  · skip
    have kl0 : (0 : Int32).toInt = 0 := by decide
    have f6 := i_eq c6
    refine lv_ldc (v := (-2000000000)) hx hb hown (hts _ kw_1003) dX9_plan_28 ?_
    exact ret _ _ _ _ _ dX9_plan_30 (⟨rfl, iv_w (iv_c (x := (-2000000000 : Int32)) (k := (-2000000000)) (by decide)) (by decide)⟩) hS
  · skip
    have kl0 : (0 : Int32).toInt = 0 := by decide
    have f6 := i_ne c6
    exact (iv_no (show iv v3 1 (-1) from iv_nel hv3 (iv_c (x := (0 : Int32)) (k := 0) (by decide)) c6 (by decide)) (by decide)).elim
