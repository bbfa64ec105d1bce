set_option maxHeartbeats 4000000 in
set_option maxRecDepth 100000 in
theorem t_X9_open (l : Launch) {D : va_G} {c0 : Nat → ClassId} {Y : Nat → Option Nat} {H : Heap} (hT : TI D vwCl (tysOf c0) (RT1 false) Y H) {a0 : Nat} (ha0 : Y a0 = some 9) : Met l yX9_open (wz yX9_open cX9_open 3 (some .int)) { frames := 0, cells := 0, slots := 0, locals := 0 } (TP D vwCl (tysOf c0) H [.ref a0]) (TQi (fun x H' => H' = H ∧ iv x (-2) (-2)) Y) 0 0 (pA Y) := by
  refine Met.ofW (cc := cX9_open) (maxL := 3) (ret := (some .int)) (by decide) rfl ?_
  intro p e s m args below meth c s₁ B hml hv
  obtain ⟨rfl, rfl, hK⟩ := hv
  have hx := B.exec
  have hb := B.bytes
  have hr := B.returns
  have hts : ∀ w ∈ wq, w.before _ s = true := fun w h => atoms_spec (ws := wz yX9_open cX9_open 3 (some .int)) B.pre w (List.mem_cons_of_mem _ h)
  have hown : s.vm.findClass RX9 = some m.cls := findClass_of_methodNamed B.named
  have hlocks := B.notSynchronized
  obtain ⟨R, hR⟩ : ∃ R : Room, R = ({ frames := 0, cells := 0, slots := 0, locals := 0 } : Room) := ⟨_, rfl⟩
  rw [show (headSpec (wz yX9_open cX9_open 3 (some .int)) { frames := 0, cells := 0, slots := 0, locals := 0 }).room = R from hR.symm]
  refine ti_mi hx hb hr hlocks (fun Q ret => ?_)
  have hl := lv_entry [.ref a0] (n := 3) (Nat.le_of_ble_eq_true rfl)
  rw [lg_entry_eq]
  generalize (lg_sl [.ref a0] ++ List.replicate (3 - (lg_sl [.ref a0]).length) Slot.unset).toArray = ls at hl ⊢
  have hl : lv_has ls 3 [(0, .ref a0)] := hl
  have hS : va_S (pA Y) s.heap s.heap [] := va_S.rf
  refine lv_aload_n hx hb dX9_open_0 rfl (lv_at hl 0 rfl) ?_
  refine ti_getr hx hb hts inlX9 hown hK hT ha0 rfl rfl 1 (by decide) (hts _ kw_20) (fun _ h9 => h9) rfl dX9_open_1 (fun v1 hv1 => ?_)
  refine ti_geti hx hb hts inlX7 hown hK hT hv1 rfl rfl 1 (by decide) (hts _ kw_480) (fun _ h9 => h9) rfl dX9_open_4 (fun v4 hv4 => ?_)
  refine lv_if_ne (tgt := 13) hx hb dX9_open_7 (by decide) (fun c7 => ?_) (fun c7 => ?_)
  · skip
    have kl0 : (0 : Int32).toInt = 0 := by decide
    have f7 := i_ne c7
    exact (iv_no (show iv v4 1 (-1) from iv_nel hv4 (iv_c (x := (0 : Int32)) (k := 0) (by decide)) c7 (by decide)) (by decide)).elim
  · skip
    have kl0 : (0 : Int32).toInt = 0 := by decide
    have f7 := i_eq c7
    refine lv_bipush (v := (-2)) hx hb dX9_open_10 (by decide) ?_
    exact ret _ _ _ _ _ dX9_open_12 (⟨rfl, iv_w (iv_c (x := (-2 : Int32)) (k := (-2)) (by decide)) (by decide)⟩) hS
set_option maxHeartbeats 4000000 in
set_option maxRecDepth 100000 in
theorem t_X9_duel (l : Launch) {D : va_G} {c0 : Nat → ClassId} {Y : Nat → Option Nat} {H : Heap} (hT : TI D vwCl (tysOf c0) (RT1 false) Y H) {a0 : Nat} (ha0 : Y a0 = some 9) {x1 : Int32} (hx1 : iv x1 (-2147483648) 2147483647) {x2 : Int32} (hx2 : iv x2 (-2147483648) 2147483647) : Met l yX9_duel (wz yX9_duel cX9_duel 7 (some .int)) { frames := 2, cells := 0, slots := 0, locals := 44 } (TP D vwCl (tysOf c0) H [.ref a0, .int x1, .int x2]) (TQi (fun x H' => H' = H ∧ iv x (-2) (-2)) Y) 0 0 (pA Y) := by
  refine Met.ofW (cc := cX9_duel) (maxL := 7) (ret := (some .int)) (by decide) rfl ?_
  intro p e s m args below meth c s₁ B hml hv
  obtain ⟨rfl, rfl, hK⟩ := hv
  have hx := B.exec
  have hb := B.bytes
  have hr := B.returns
  have hts : ∀ w ∈ wq, w.before _ s = true := fun w h => atoms_spec (ws := wz yX9_duel cX9_duel 7 (some .int)) B.pre w (List.mem_cons_of_mem _ h)
  have hown : s.vm.findClass RX9 = some m.cls := findClass_of_methodNamed B.named
  have hlocks := B.notSynchronized
  obtain ⟨R, hR⟩ : ∃ R : Room, R = ({ frames := 2, cells := 0, slots := 0, locals := 44 } : Room) := ⟨_, rfl⟩
  rw [show (headSpec (wz yX9_duel cX9_duel 7 (some .int)) { frames := 2, cells := 0, slots := 0, locals := 44 }).room = R from hR.symm]
  refine ti_mi hx hb hr hlocks (fun Q ret => ?_)
  have hl := lv_entry [.ref a0, .int x1, .int x2] (n := 7) (Nat.le_of_ble_eq_true rfl)
  rw [lg_entry_eq]
  generalize (lg_sl [.ref a0, .int x1, .int x2] ++ List.replicate (7 - (lg_sl [.ref a0, .int x1, .int x2]).length) Slot.unset).toArray = ls at hl ⊢
  have hl : lv_has ls 7 [(0, .ref a0), (1, .int x1), (2, .int x2)] := hl
  have hS : va_S (pA Y) s.heap s.heap [] := va_S.rf
  refine lv_aload_n hx hb dX9_duel_0 rfl (lv_at hl 0 rfl) ?_
  refine lv_iload_n hx hb dX9_duel_1 rfl (lv_at hl 1 rfl) ?_
  refine lv_iload_n hx hb dX9_duel_2 rfl (lv_at hl 2 rfl) ?_
  refine ti_calli (va_runV (As := [.int x1, .int x2]) (rest := []) ⟨hx, hb, hml, hown, hts⟩ (t_X9_arePair l hT ha0 (iv_w hx1 (by decide)) (iv_w hx2 (by decide))) (cwV 2 hts (good_V kw_529 kw_530 kw_531 kw_2 kw_532) rfl rfl rfl (by decide +kernel) ⟨by rw [hR]; decide, by rw [hR]; decide⟩) (ti_preV hK hT ha0 rfl rfl) rfl rfl hl.1 rfl (lv_room (Nat.le_of_ble_eq_true rfl)) dX9_duel_3 ⟨Nat.zero_le _, Nat.zero_le _⟩) hS (fun _ h => h) (fun v3 H1 locs hB hS _ _ => ?_)
  obtain ⟨hH, hv3⟩ := hB
  rw [hH] at hS ⊢
  refine lv_if_ne (tgt := 12) hx hb dX9_duel_6 (by decide) (fun c6 => ?_) (fun c6 => ?_)
  · skip
    have kl0 : (0 : Int32).toInt = 0 := by decide
    have f6 := i_ne c6
    exact (iv_no (show iv v3 1 (-1) from iv_nel hv3 (iv_c (x := (0 : Int32)) (k := 0) (by decide)) c6 (by decide)) (by decide)).elim
  · skip
    have kl0 : (0 : Int32).toInt = 0 := by decide
    have f6 := i_eq c6
    refine lv_bipush (v := (-2)) hx hb dX9_duel_9 (by decide) ?_
    exact ret _ _ _ _ _ dX9_duel_11 (⟨rfl, iv_w (iv_c (x := (-2 : Int32)) (k := (-2)) (by decide)) (by decide)⟩) hS
set_option maxHeartbeats 4000000 in
set_option maxRecDepth 100000 in
theorem t_X9_mixed (l : Launch) {D : va_G} {c0 : Nat → ClassId} {Y : Nat → Option Nat} {H : Heap} (hT : TI D vwCl (tysOf c0) (RT1 false) Y H) {a0 : Nat} (ha0 : Y a0 = some 9) {x1 : Int32} (hx1 : iv x1 (-2147483648) 2147483647) {x2 : Int32} (hx2 : iv x2 (-2147483648) 2147483647) : Met l yX9_mixed (wz yX9_mixed cX9_mixed 6 (some .int)) { frames := 2, cells := 0, slots := 0, locals := 44 } (TP D vwCl (tysOf c0) H [.ref a0, .int x1, .int x2]) (TQi (fun x H' => H' = H ∧ iv x (-2) (-2)) Y) 0 0 (pA Y) := by
  refine Met.ofW (cc := cX9_mixed) (maxL := 6) (ret := (some .int)) (by decide) rfl ?_
  intro p e s m args below meth c s₁ B hml hv
  obtain ⟨rfl, rfl, hK⟩ := hv
  have hx := B.exec
  have hb := B.bytes
  have hr := B.returns
  have hts : ∀ w ∈ wq, w.before _ s = true := fun w h => atoms_spec (ws := wz yX9_mixed cX9_mixed 6 (some .int)) B.pre w (List.mem_cons_of_mem _ h)
  have hown : s.vm.findClass RX9 = some m.cls := findClass_of_methodNamed B.named
  have hlocks := B.notSynchronized
  obtain ⟨R, hR⟩ : ∃ R : Room, R = ({ frames := 2, cells := 0, slots := 0, locals := 44 } : Room) := ⟨_, rfl⟩
  rw [show (headSpec (wz yX9_mixed cX9_mixed 6 (some .int)) { frames := 2, cells := 0, slots := 0, locals := 44 }).room = R from hR.symm]
  refine ti_mi hx hb hr hlocks (fun Q ret => ?_)
  have hl := lv_entry [.ref a0, .int x1, .int x2] (n := 6) (Nat.le_of_ble_eq_true rfl)
  rw [lg_entry_eq]
  generalize (lg_sl [.ref a0, .int x1, .int x2] ++ List.replicate (6 - (lg_sl [.ref a0, .int x1, .int x2]).length) Slot.unset).toArray = ls at hl ⊢
  have hl : lv_has ls 6 [(0, .ref a0), (1, .int x1), (2, .int x2)] := hl
  have hS : va_S (pA Y) s.heap s.heap [] := va_S.rf
  refine lv_aload_n hx hb dX9_mixed_0 rfl (lv_at hl 0 rfl) ?_
  refine lv_iload_n hx hb dX9_mixed_1 rfl (lv_at hl 1 rfl) ?_
  refine lv_iload_n hx hb dX9_mixed_2 rfl (lv_at hl 2 rfl) ?_
  refine ti_calli (va_runV (As := [.int x1, .int x2]) (rest := []) ⟨hx, hb, hml, hown, hts⟩ (t_X9_arePair l hT ha0 (iv_w hx1 (by decide)) (iv_w hx2 (by decide))) (cwV 2 hts (good_V kw_529 kw_530 kw_531 kw_2 kw_532) rfl rfl rfl (by decide +kernel) ⟨by rw [hR]; decide, by rw [hR]; decide⟩) (ti_preV hK hT ha0 rfl rfl) rfl rfl hl.1 rfl (lv_room (Nat.le_of_ble_eq_true rfl)) dX9_mixed_3 ⟨Nat.zero_le _, Nat.zero_le _⟩) hS (fun _ h => h) (fun v3 H1 locs hB hS _ _ => ?_)
  obtain ⟨hH, hv3⟩ := hB
  rw [hH] at hS ⊢
  refine lv_if_ne (tgt := 12) hx hb dX9_mixed_6 (by decide) (fun c6 => ?_) (fun c6 => ?_)
  · skip
    have kl0 : (0 : Int32).toInt = 0 := by decide
    have f6 := i_ne c6
    exact (iv_no (show iv v3 1 (-1) from iv_nel hv3 (iv_c (x := (0 : Int32)) (k := 0) (by decide)) c6 (by decide)) (by decide)).elim
  · skip
    have kl0 : (0 : Int32).toInt = 0 := by decide
    have f6 := i_eq c6
    refine lv_bipush (v := (-2)) hx hb dX9_mixed_9 (by decide) ?_
    exact ret _ _ _ _ _ dX9_mixed_11 (⟨rfl, iv_w (iv_c (x := (-2 : Int32)) (k := (-2)) (by decide)) (by decide)⟩) hS
set_option maxHeartbeats 4000000 in
set_option maxRecDepth 100000 in
theorem t_X9_seed (l : Launch) {D : va_G} {c0 : Nat → ClassId} {Y : Nat → Option Nat} {H : Heap} (hT : TI D vwCl (tysOf c0) (RT1 false) Y H) {a0 : Nat} (ha0 : Y a0 = some 9) {x1 : Int32} (hx1 : iv x1 (-2147483648) 2147483647) : Met l yX9_seed (wz yX9_seed cX9_seed 2 (some .int)) { frames := 0, cells := 0, slots := 0, locals := 0 } (TP D vwCl (tysOf c0) H [.ref a0, .int x1]) (TQi (fun x H' => TI D vwCl (tysOf c0) (RT1 false) Y H' ∧ (((x1.toInt < 0 ∨ 2000000000 < x1.toInt) ∧ x.toInt = -2) ∨ (0 ≤ x1.toInt ∧ x1.toInt ≤ 2000000000 ∧ x.toInt = 0))) Y) 0 0 (pA Y) := by
  refine Met.ofW (cc := cX9_seed) (maxL := 2) (ret := (some .int)) (by decide) rfl ?_
  intro p e s m args below meth c s₁ B hml hv
  obtain ⟨rfl, rfl, hK⟩ := hv
  have hx := B.exec
  have hb := B.bytes
  have hr := B.returns
  have hts : ∀ w ∈ wq, w.before _ s = true := fun w h => atoms_spec (ws := wz yX9_seed cX9_seed 2 (some .int)) B.pre w (List.mem_cons_of_mem _ h)
  have hown : s.vm.findClass RX9 = some m.cls := findClass_of_methodNamed B.named
  have hlocks := B.notSynchronized
  obtain ⟨R, hR⟩ : ∃ R : Room, R = ({ frames := 0, cells := 0, slots := 0, locals := 0 } : Room) := ⟨_, rfl⟩
  rw [show (headSpec (wz yX9_seed cX9_seed 2 (some .int)) { frames := 0, cells := 0, slots := 0, locals := 0 }).room = R from hR.symm]
  refine ti_mi hx hb hr hlocks (fun Q ret => ?_)
  have hl := lv_entry [.ref a0, .int x1] (n := 2) (Nat.le_of_ble_eq_true rfl)
  rw [lg_entry_eq]
  generalize (lg_sl [.ref a0, .int x1] ++ List.replicate (2 - (lg_sl [.ref a0, .int x1]).length) Slot.unset).toArray = ls at hl ⊢
  have hl : lv_has ls 2 [(0, .ref a0), (1, .int x1)] := hl
  refine ti_gen (P := fun H => TI D vwCl (tysOf c0) (RT1 false) Y H) (Y := Y) hT (fun H locs hT hS => ?_)
  refine lv_iload_n hx hb dX9_seed_0 rfl (lv_at hl 1 rfl) ?_
  refine lv_if_lt (tgt := 11) hx hb dX9_seed_1 (by decide) (fun c1 => ?_) (fun c1 => ?_)
  · skip
    have kl0 : (0 : Int32).toInt = 0 := by decide
    have f1 := i_lt c1
    have hx1_1l : iv x1 (-2147483648) (-1) := iv_ltl hx1 (iv_c (x := (0 : Int32)) (k := 0) (by decide)) c1 (by decide)
    refine lv_bipush (v := (-2)) hx hb dX9_seed_11 (by decide) ?_
    have klm2 : (-2 : Int32).toInt = (-2) := by decide
    exact ret _ _ _ _ _ dX9_seed_13 (⟨hT, by have b0a := (hx1_1l).1; have b0b := (hx1_1l).2; omega⟩) hS
  · skip
    have kl0 : (0 : Int32).toInt = 0 := by decide
    have f1 := i_nlt c1
    have hx1_1r : iv x1 0 2147483647 := iv_ler (iv_c (x := (0 : Int32)) (k := 0) (by decide)) hx1 (Int32.not_lt.mp c1) (by decide)
    refine lv_iload_n hx hb dX9_seed_4 rfl (lv_at hl 1 rfl) ?_
    refine lv_ldcw (v := 2000000000) hx hb hown (hts _ kw_1493) dX9_seed_5 ?_
    refine lv_icmp_le (tgt := 14) hx hb dX9_seed_8 (by decide) (fun c8 => ?_) (fun c8 => ?_)
    · skip
      have kl2000000000 : (2000000000 : Int32).toInt = 2000000000 := by decide
      have f8 := i_le c8
      have hx1_8l : iv x1 0 2000000000 := iv_lel hx1_1r (iv_c (x := (2000000000 : Int32)) (k := 2000000000) (by decide)) c8 (by decide)
      refine lv_aload_n hx hb dX9_seed_14 rfl (lv_at hl 0 rfl) ?_
      refine ti_getr hx hb hts inlX9 hown hK hT ha0 rfl rfl 1 (by decide) (hts _ kw_20) (fun _ h9 => h9) rfl dX9_seed_15 (fun v15 hv15 => ?_)
      refine lv_iload_n hx hb dX9_seed_18 rfl (lv_at hl 1 rfl) ?_
      refine lv_i2l hx hb dX9_seed_19 rfl ?_
      refine lv_topl (fun v19 e19 => ?_)
      have hv19 : jv v19 0 2000000000 := by rw [e19]; exact jv_i hx1_8l
      have t19 : v19.toInt = x1.toInt := by rw [e19]; exact jv_e _
      refine ti_put (ty := .long) hx hb hts inlX7 tyX7 tyX7_ok nmX7 hown hK hT hS hv15 rfl rfl 5 (by decide) (hts _ kw_1494) (fun _ h9 => h9) rfl rfl (by decide +kernel) rfl rfl ⟨v19, rfl⟩ dX9_seed_20 (fun H locs hT hS => ?_)
      refine lv_iconst (v := 0) hx hb dX9_seed_23 (by decide) ?_
      exact ret _ _ _ _ _ dX9_seed_24 (⟨hT, by have b0a := (hx1_8l).1; have b0b := (hx1_8l).2; have b1a := (hv19).1; have b1b := (hv19).2; omega⟩) hS
    · skip
      have kl2000000000 : (2000000000 : Int32).toInt = 2000000000 := by decide
      have f8 := i_nle c8
      have hx1_8r : iv x1 2000000001 2147483647 := iv_ltr (iv_c (x := (2000000000 : Int32)) (k := 2000000000) (by decide)) hx1_1r (Int32.not_le.mp c8) (by decide)
      refine lv_bipush (v := (-2)) hx hb dX9_seed_11 (by decide) ?_
      have klm2 : (-2 : Int32).toInt = (-2) := by decide
      exact ret _ _ _ _ _ dX9_seed_13 (⟨hT, by have b0a := (hx1_8r).1; have b0b := (hx1_8r).2; omega⟩) hS
set_option maxHeartbeats 4000000 in
set_option maxRecDepth 100000 in
theorem t_X9_count (l : Launch) {D : va_G} {c0 : Nat → ClassId} {Y : Nat → Option Nat} {H : Heap} (hT : TI D vwCl (tysOf c0) (RT1 false) Y H) {a0 : Nat} (ha0 : Y a0 = some 9) {x1 : Int32} (hx1 : iv x1 (-2147483648) 2147483647) : Met l yX9_count (wz yX9_count cX9_count 2 (some .int)) { frames := 1, cells := 0, slots := 0, locals := 22 } (TP D vwCl (tysOf c0) H [.ref a0, .int x1]) (TQi (fun x H' => H' = H ∧ ((x1.toInt = 8 ∧ x.toInt = 2) ∨ (¬ x1.toInt = 8 ∧ 0 ≤ x1.toInt ∧ x1.toInt ≤ 12 ∧ x.toInt = 0) ∨ ((x1.toInt < 0 ∨ 12 < x1.toInt) ∧ x.toInt = -1))) Y) 0 0 (pA Y) := by
  refine Met.ofW (cc := cX9_count) (maxL := 2) (ret := (some .int)) (by decide) rfl ?_
  intro p e s m args below meth c s₁ B hml hv
  obtain ⟨rfl, rfl, hK⟩ := hv
  have hx := B.exec
  have hb := B.bytes
  have hr := B.returns
  have hts : ∀ w ∈ wq, w.before _ s = true := fun w h => atoms_spec (ws := wz yX9_count cX9_count 2 (some .int)) B.pre w (List.mem_cons_of_mem _ h)
  have hown : s.vm.findClass RX9 = some m.cls := findClass_of_methodNamed B.named
  have hlocks := B.notSynchronized
  obtain ⟨R, hR⟩ : ∃ R : Room, R = ({ frames := 1, cells := 0, slots := 0, locals := 22 } : Room) := ⟨_, rfl⟩
  rw [show (headSpec (wz yX9_count cX9_count 2 (some .int)) { frames := 1, cells := 0, slots := 0, locals := 22 }).room = R from hR.symm]
  refine ti_mi hx hb hr hlocks (fun Q ret => ?_)
  have hl := lv_entry [.ref a0, .int x1] (n := 2) (Nat.le_of_ble_eq_true rfl)
  rw [lg_entry_eq]
  generalize (lg_sl [.ref a0, .int x1] ++ List.replicate (2 - (lg_sl [.ref a0, .int x1]).length) Slot.unset).toArray = ls at hl ⊢
  have hl : lv_has ls 2 [(0, .ref a0), (1, .int x1)] := hl
  have hS : va_S (pA Y) s.heap s.heap [] := va_S.rf
  refine lv_iload_n hx hb dX9_count_0 rfl (lv_at hl 1 rfl) ?_
  by_cases c1_0 : x1.toInt = 0
  · skip
    refine lv_tableIn (off := 67) (tgt := 68) hx hb dX9_count_1 (by omega) (by omega) (by rw [c1_0]; rfl) (by decide) ?_
    have hx1_1 : iv x1 0 0 := iv_c c1_0
    refine lv_aload_n hx hb dX9_count_68 rfl (lv_at hl 0 rfl) ?_
    refine ti_getr hx hb hts inlX9 hown hK hT ha0 rfl rfl 1 (by decide) (hts _ kw_20) (fun _ h9 => h9) rfl dX9_count_69 (fun v69 hv69 => ?_)
    refine ti_geti hx hb hts inlX7 hown hK hT hv69 rfl rfl 0 (by decide) (hts _ kw_498) (fun _ h9 => h9) rfl dX9_count_72 (fun v72 hv72 => ?_)
    exact ret _ _ _ _ _ dX9_count_75 (⟨rfl, by have b0a := (hx1_1).1; have b0b := (hx1_1).2; have b1a := (hv72).1; have b1b := (hv72).2; omega⟩) hS
  by_cases c1_1 : x1.toInt = 1
  · skip
    refine lv_tableIn (off := 75) (tgt := 76) hx hb dX9_count_1 (by omega) (by omega) (by rw [c1_1]; rfl) (by decide) ?_
    have hx1_1 : iv x1 1 1 := iv_c c1_1
    refine lv_aload_n hx hb dX9_count_76 rfl (lv_at hl 0 rfl) ?_
    refine ti_getr hx hb hts inlX9 hown hK hT ha0 rfl rfl 1 (by decide) (hts _ kw_20) (fun _ h9 => h9) rfl dX9_count_77 (fun v77 hv77 => ?_)
    refine ti_geti hx hb hts inlX7 hown hK hT hv77 rfl rfl 1 (by decide) (hts _ kw_480) (fun _ h9 => h9) rfl dX9_count_80 (fun v80 hv80 => ?_)
    exact ret _ _ _ _ _ dX9_count_83 (⟨rfl, by have b0a := (hx1_1).1; have b0b := (hx1_1).2; have b1a := (hv80).1; have b1b := (hv80).2; omega⟩) hS
  by_cases c1_2 : x1.toInt = 2
  · skip
    refine lv_tableIn (off := 83) (tgt := 84) hx hb dX9_count_1 (by omega) (by omega) (by rw [c1_2]; rfl) (by decide) ?_
    have hx1_1 : iv x1 2 2 := iv_c c1_2
    refine lv_aload_n hx hb dX9_count_84 rfl (lv_at hl 0 rfl) ?_
    refine ti_getr hx hb hts inlX9 hown hK hT ha0 rfl rfl 1 (by decide) (hts _ kw_20) (fun _ h9 => h9) rfl dX9_count_85 (fun v85 hv85 => ?_)
    refine ti_geti hx hb hts inlX7 hown hK hT hv85 rfl rfl 2 (by decide) (hts _ kw_189) (fun _ h9 => h9) rfl dX9_count_88 (fun v88 hv88 => ?_)
    exact ret _ _ _ _ _ dX9_count_91 (⟨rfl, by have b0a := (hx1_1).1; have b0b := (hx1_1).2; have b1a := (hv88).1; have b1b := (hv88).2; omega⟩) hS
  by_cases c1_3 : x1.toInt = 3
  · skip
    refine lv_tableIn (off := 91) (tgt := 92) hx hb dX9_count_1 (by omega) (by omega) (by rw [c1_3]; rfl) (by decide) ?_
    have hx1_1 : iv x1 3 3 := iv_c c1_3
    refine lv_aload_n hx hb dX9_count_92 rfl (lv_at hl 0 rfl) ?_
    refine ti_getr hx hb hts inlX9 hown hK hT ha0 rfl rfl 0 (by decide) (hts _ kw_16) (fun _ h9 => h9) rfl dX9_count_93 (fun v93 hv93 => ?_)
    refine ti_geti hx hb hts inlX6 hown hK hT hv93 rfl rfl 1 (by decide) (hts _ kw_162) (fun _ h9 => h9) rfl dX9_count_96 (fun v96 hv96 => ?_)
    exact ret _ _ _ _ _ dX9_count_99 (⟨rfl, by have b0a := (hx1_1).1; have b0b := (hx1_1).2; have b1a := (hv96).1; have b1b := (hv96).2; omega⟩) hS
  by_cases c1_4 : x1.toInt = 4
  · skip
    refine lv_tableIn (off := 99) (tgt := 100) hx hb dX9_count_1 (by omega) (by omega) (by rw [c1_4]; rfl) (by decide) ?_
    have hx1_1 : iv x1 4 4 := iv_c c1_4
    refine lv_aload_n hx hb dX9_count_100 rfl (lv_at hl 0 rfl) ?_
    refine ti_getr hx hb hts inlX9 hown hK hT ha0 rfl rfl 1 (by decide) (hts _ kw_20) (fun _ h9 => h9) rfl dX9_count_101 (fun v101 hv101 => ?_)
    refine ti_geti hx hb hts inlX7 hown hK hT hv101 rfl rfl 3 (by decide) (hts _ kw_1450) (fun _ h9 => h9) rfl dX9_count_104 (fun v104 hv104 => ?_)
    exact ret _ _ _ _ _ dX9_count_107 (⟨rfl, by have b0a := (hx1_1).1; have b0b := (hx1_1).2; have b1a := (hv104).1; have b1b := (hv104).2; omega⟩) hS
  by_cases c1_5 : x1.toInt = 5
  · skip
    refine lv_tableIn (off := 107) (tgt := 108) hx hb dX9_count_1 (by omega) (by omega) (by rw [c1_5]; rfl) (by decide) ?_
    have hx1_1 : iv x1 5 5 := iv_c c1_5
    refine lv_aload_n hx hb dX9_count_108 rfl (lv_at hl 0 rfl) ?_
    refine ti_getr hx hb hts inlX9 hown hK hT ha0 rfl rfl 1 (by decide) (hts _ kw_20) (fun _ h9 => h9) rfl dX9_count_109 (fun v109 hv109 => ?_)
    refine ti_getr hx hb hts inlX7 hown hK hT hv109 rfl rfl 7 (by decide) (hts _ kw_1299) (fun _ h9 => h9) rfl dX9_count_112 (fun v112 hv112 => ?_)
    refine ti_geti hx hb hts inlX1 hown hK hT hv112 rfl rfl 0 (by decide) (hts _ kw_1300) (fun _ h9 => h9) rfl dX9_count_115 (fun v115 hv115 => ?_)
    exact ret _ _ _ _ _ dX9_count_118 (⟨rfl, by have b0a := (hx1_1).1; have b0b := (hx1_1).2; have b1a := (hv115).1; have b1b := (hv115).2; omega⟩) hS
  by_cases c1_6 : x1.toInt = 6
  · skip
    refine lv_tableIn (off := 118) (tgt := 119) hx hb dX9_count_1 (by omega) (by omega) (by rw [c1_6]; rfl) (by decide) ?_
    have hx1_1 : iv x1 6 6 := iv_c c1_6
    refine lv_aload_n hx hb dX9_count_119 rfl (lv_at hl 0 rfl) ?_
    refine ti_getr hx hb hts inlX9 hown hK hT ha0 rfl rfl 1 (by decide) (hts _ kw_20) (fun _ h9 => h9) rfl dX9_count_120 (fun v120 hv120 => ?_)
    refine ti_geti hx hb hts inlX7 hown hK hT hv120 rfl rfl 4 (by decide) (hts _ kw_1504) (fun _ h9 => h9) rfl dX9_count_123 (fun v123 hv123 => ?_)
    exact ret _ _ _ _ _ dX9_count_126 (⟨rfl, by have b0a := (hx1_1).1; have b0b := (hx1_1).2; have b1a := (hv123).1; have b1b := (hv123).2; omega⟩) hS
  by_cases c1_7 : x1.toInt = 7
  · skip
    refine lv_tableIn (off := 126) (tgt := 127) hx hb dX9_count_1 (by omega) (by omega) (by rw [c1_7]; rfl) (by decide) ?_
    have hx1_1 : iv x1 7 7 := iv_c c1_7
    refine lv_aload_n hx hb dX9_count_127 rfl (lv_at hl 0 rfl) ?_
    refine ti_getr hx hb hts inlX9 hown hK hT ha0 rfl rfl 1 (by decide) (hts _ kw_20) (fun _ h9 => h9) rfl dX9_count_128 (fun v128 hv128 => ?_)
    refine ti_getr hx hb hts inlX7 hown hK hT hv128 rfl rfl 6 (by decide) (hts _ kw_575) (fun _ h9 => h9) rfl dX9_count_131 (fun v131 hv131 => ?_)
    refine ti_geti hx hb hts inlX0 hown hK hT hv131 rfl rfl 0 (by decide) (hts _ kw_1210) (fun _ h9 => h9) rfl dX9_count_134 (fun v134 hv134 => ?_)
    exact ret _ _ _ _ _ dX9_count_137 (⟨rfl, by have b0a := (hx1_1).1; have b0b := (hx1_1).2; have b1a := (hv134).1; have b1b := (hv134).2; omega⟩) hS
  by_cases c1_8 : x1.toInt = 8
  · skip
    refine lv_tableIn (off := 137) (tgt := 138) hx hb dX9_count_1 (by omega) (by omega) (by rw [c1_8]; rfl) (by decide) ?_
    have hx1_1 : iv x1 8 8 := iv_c c1_8
    refine lv_aload_n hx hb dX9_count_138 rfl (lv_at hl 0 rfl) ?_
    refine ti_getr hx hb hts inlX9 hown hK hT ha0 rfl rfl 1 (by decide) (hts _ kw_20) (fun _ h9 => h9) rfl dX9_count_139 (fun v139 hv139 => ?_)
    refine ti_getr hx hb hts inlX7 hown hK hT hv139 rfl rfl 6 (by decide) (hts _ kw_575) (fun _ h9 => h9) rfl dX9_count_142 (fun v142 hv142 => ?_)
    refine ti_geti hx hb hts inlX0 hown hK hT hv142 rfl rfl 1 (by decide) (hts _ kw_1211) (fun _ h9 => h9) rfl dX9_count_145 (fun v145 hv145 => ?_)
    exact ret _ _ _ _ _ dX9_count_148 (⟨rfl, by have b0a := (hx1_1).1; have b0b := (hx1_1).2; have b1a := (hv145).1; have b1b := (hv145).2; omega⟩) hS
  by_cases c1_9 : x1.toInt = 9
  · skip
    refine lv_tableIn (off := 148) (tgt := 149) hx hb dX9_count_1 (by omega) (by omega) (by rw [c1_9]; rfl) (by decide) ?_
    have hx1_1 : iv x1 9 9 := iv_c c1_9
    refine lv_aload_n hx hb dX9_count_149 rfl (lv_at hl 0 rfl) ?_
    refine ti_getr hx hb hts inlX9 hown hK hT ha0 rfl rfl 1 (by decide) (hts _ kw_20) (fun _ h9 => h9) rfl dX9_count_150 (fun v150 hv150 => ?_)
    refine ti_getr hx hb hts inlX7 hown hK hT hv150 rfl rfl 6 (by decide) (hts _ kw_575) (fun _ h9 => h9) rfl dX9_count_153 (fun v153 hv153 => ?_)
    refine ti_geti hx hb hts inlX0 hown hK hT hv153 rfl rfl 2 (by decide) (hts _ kw_1212) (fun _ h9 => h9) rfl dX9_count_156 (fun v156 hv156 => ?_)
    exact ret _ _ _ _ _ dX9_count_159 (⟨rfl, by have b0a := (hx1_1).1; have b0b := (hx1_1).2; have b1a := (hv156).1; have b1b := (hv156).2; omega⟩) hS
  by_cases c1_10 : x1.toInt = 10
  · skip
    refine lv_tableIn (off := 159) (tgt := 160) hx hb dX9_count_1 (by omega) (by omega) (by rw [c1_10]; rfl) (by decide) ?_
    have hx1_1 : iv x1 10 10 := iv_c c1_10
    refine lv_aload_n hx hb dX9_count_160 rfl (lv_at hl 0 rfl) ?_
    refine ti_getr hx hb hts inlX9 hown hK hT ha0 rfl rfl 1 (by decide) (hts _ kw_20) (fun _ h9 => h9) rfl dX9_count_161 (fun v161 hv161 => ?_)
    refine ti_getr hx hb hts inlX7 hown hK hT hv161 rfl rfl 6 (by decide) (hts _ kw_575) (fun _ h9 => h9) rfl dX9_count_164 (fun v164 hv164 => ?_)
    refine ti_geti hx hb hts inlX0 hown hK hT hv164 rfl rfl 3 (by decide) (hts _ kw_1213) (fun _ h9 => h9) rfl dX9_count_167 (fun v167 hv167 => ?_)
    refine lv_if_eq (tgt := 177) hx hb dX9_count_170 (by decide) (fun c170 => ?_) (fun c170 => ?_)
    · skip
      have kl0 : (0 : Int32).toInt = 0 := by decide
      have f170 := i_eq c170
      refine lv_iconst (v := 0) hx hb dX9_count_177 (by decide) ?_
      exact ret _ _ _ _ _ dX9_count_178 (⟨rfl, by have b0a := (hx1_1).1; have b0b := (hx1_1).2; have b1a := (hv167).1; have b1b := (hv167).2; omega⟩) hS
    · skip
      have kl0 : (0 : Int32).toInt = 0 := by decide
      have f170 := i_ne c170
      exact (iv_no (show iv v167 1 (-1) from iv_nel hv167 (iv_c (x := (0 : Int32)) (k := 0) (by decide)) c170 (by decide)) (by decide)).elim
  by_cases c1_11 : x1.toInt = 11
  · skip
    refine lv_tableIn (off := 178) (tgt := 179) hx hb dX9_count_1 (by omega) (by omega) (by rw [c1_11]; rfl) (by decide) ?_
    have hx1_1 : iv x1 11 11 := iv_c c1_11
    refine lv_aload_n hx hb dX9_count_179 rfl (lv_at hl 0 rfl) ?_
    refine ti_getr hx hb hts inlX9 hown hK hT ha0 rfl rfl 1 (by decide) (hts _ kw_20) (fun _ h9 => h9) rfl dX9_count_180 (fun v180 hv180 => ?_)
    refine ti_getr hx hb hts inlX7 hown hK hT hv180 rfl rfl 6 (by decide) (hts _ kw_575) (fun _ h9 => h9) rfl dX9_count_183 (fun v183 hv183 => ?_)
    refine ti_geti hx hb hts inlX0 hown hK hT hv183 rfl rfl 4 (by decide) (hts _ kw_1329) (fun _ h9 => h9) rfl dX9_count_186 (fun v186 hv186 => ?_)
    exact ret _ _ _ _ _ dX9_count_189 (⟨rfl, by have b0a := (hx1_1).1; have b0b := (hx1_1).2; have b1a := (hv186).1; have b1b := (hv186).2; omega⟩) hS
  by_cases c1_12 : x1.toInt = 12
  · skip
    refine lv_tableIn (off := 189) (tgt := 190) hx hb dX9_count_1 (by omega) (by omega) (by rw [c1_12]; rfl) (by decide) ?_
    have hx1_1 : iv x1 12 12 := iv_c c1_12
    refine lv_aload_n hx hb dX9_count_190 rfl (lv_at hl 0 rfl) ?_
    refine ti_calli (va_runV (As := []) (rest := []) ⟨hx, hb, hml, hown, hts⟩ (t_X9_slotsWithRow l hT ha0) (cwV 0 hts (good_V kw_1505 kw_1506 kw_1507 kw_2 kw_1508) rfl rfl rfl (by decide +kernel) ⟨by rw [hR]; decide, by rw [hR]; decide⟩) (ti_preV hK hT ha0 rfl rfl) rfl rfl hl.1 rfl (lv_room (Nat.le_of_ble_eq_true rfl)) dX9_count_191 ⟨Nat.zero_le _, Nat.zero_le _⟩) hS (fun _ h => h) (fun v191 H1 locs hB hS _ _ => ?_)
    obtain ⟨hH, hv191⟩ := hB
    rw [hH] at hS ⊢
    exact ret _ _ _ _ _ dX9_count_194 (⟨rfl, by have b0a := (hx1_1).1; have b0b := (hx1_1).2; have b1a := (hv191).1; have b1b := (hv191).2; omega⟩) hS
  refine lv_tableOut (tgt := 195) hx hb dX9_count_1 (by have b0a := (hx1).1; have b0b := (hx1).2; omega) (by decide) ?_
  refine lv_iconst (v := (-1)) hx hb dX9_count_195 (by decide) ?_
  have klm1 : (-1 : Int32).toInt = (-1) := by decide
  exact ret _ _ _ _ _ dX9_count_196 (⟨rfl, by have b0a := (hx1).1; have b0b := (hx1).2; omega⟩) hS
set_option maxHeartbeats 4000000 in
set_option maxRecDepth 100000 in
theorem t_X9_keep (l : Launch) {D : va_G} {c0 : Nat → ClassId} {Y : Nat → Option Nat} {H : Heap} (hT : TI D vwCl (tysOf c0) (RT1 true) Y H) {a0 : Nat} (ha0 : Y a0 = some 9) {x1 : Int32} (hx1 : iv x1 (-2147483648) 2147483647) : Met l yX9_keep (wz yX9_keep cX9_keep 2 (some .int)) { frames := 3, cells := 0, slots := 0, locals := 103 } (TP D vwCl (tysOf c0) H [.ref a0, .int x1]) (TQi (fun x H' => TI D vwCl (tysOf c0) (RT1 true) Y H' ∧ (((x1.toInt < 0 ∨ 2 < x1.toInt) ∧ x.toInt = -2) ∨ (0 ≤ x1.toInt ∧ x1.toInt ≤ 2 ∧ x.toInt = 0))) Y) 0 0 (pA Y) := by
  refine Met.ofW (cc := cX9_keep) (maxL := 2) (ret := (some .int)) (by decide) rfl ?_
  intro p e s m args below meth c s₁ B hml hv
  obtain ⟨rfl, rfl, hK⟩ := hv
  have hx := B.exec
  have hb := B.bytes
  have hr := B.returns
  have hts : ∀ w ∈ wq, w.before _ s = true := fun w h => atoms_spec (ws := wz yX9_keep cX9_keep 2 (some .int)) B.pre w (List.mem_cons_of_mem _ h)
  have hown : s.vm.findClass RX9 = some m.cls := findClass_of_methodNamed B.named
  have hlocks := B.notSynchronized
  obtain ⟨R, hR⟩ : ∃ R : Room, R = ({ frames := 3, cells := 0, slots := 0, locals := 103 } : Room) := ⟨_, rfl⟩
  rw [show (headSpec (wz yX9_keep cX9_keep 2 (some .int)) { frames := 3, cells := 0, slots := 0, locals := 103 }).room = R from hR.symm]
  refine ti_mi hx hb hr hlocks (fun Q ret => ?_)
  have hl := lv_entry [.ref a0, .int x1] (n := 2) (Nat.le_of_ble_eq_true rfl)
  rw [lg_entry_eq]
  generalize (lg_sl [.ref a0, .int x1] ++ List.replicate (2 - (lg_sl [.ref a0, .int x1]).length) Slot.unset).toArray = ls at hl ⊢
  have hl : lv_has ls 2 [(0, .ref a0), (1, .int x1)] := hl
  refine ti_gen (P := fun H => TI D vwCl (tysOf c0) (RT1 true) Y H) (Y := Y) hT (fun H locs hT hS => ?_)
  refine lv_iload_n hx hb dX9_keep_0 rfl (lv_at hl 1 rfl) ?_
  refine lv_if_lt (tgt := 9) hx hb dX9_keep_1 (by decide) (fun c1 => ?_) (fun c1 => ?_)
  · skip
    have kl0 : (0 : Int32).toInt = 0 := by decide
    have f1 := i_lt c1
    have hx1_1l : iv x1 (-2147483648) (-1) := iv_ltl hx1 (iv_c (x := (0 : Int32)) (k := 0) (by decide)) c1 (by decide)
    refine lv_bipush (v := (-2)) hx hb dX9_keep_9 (by decide) ?_
    have klm2 : (-2 : Int32).toInt = (-2) := by decide
    exact ret _ _ _ _ _ dX9_keep_11 (⟨hT, by have b0a := (hx1_1l).1; have b0b := (hx1_1l).2; omega⟩) hS
  · skip
    have kl0 : (0 : Int32).toInt = 0 := by decide
    have f1 := i_nlt c1
    have hx1_1r : iv x1 0 2147483647 := iv_ler (iv_c (x := (0 : Int32)) (k := 0) (by decide)) hx1 (Int32.not_lt.mp c1) (by decide)
    refine lv_iload_n hx hb dX9_keep_4 rfl (lv_at hl 1 rfl) ?_
    refine lv_iconst (v := 3) hx hb dX9_keep_5 (by decide) ?_
    refine lv_icmp_lt (tgt := 12) hx hb dX9_keep_6 (by decide) (fun c6 => ?_) (fun c6 => ?_)
    · skip
      have kl3 : (3 : Int32).toInt = 3 := by decide
      have f6 := i_lt c6
      have hx1_6l : iv x1 0 2 := iv_ltl hx1_1r (iv_c (x := (3 : Int32)) (k := 3) (by decide)) c6 (by decide)
      refine lv_aload_n hx hb dX9_keep_12 rfl (lv_at hl 0 rfl) ?_
      refine ti_getr hx hb hts inlX9 hown hK hT ha0 rfl rfl 3 (by decide) (hts _ kw_22) (fun _ h9 => h9) rfl dX9_keep_13 (fun v13 hv13 => ?_)
      refine lv_iload_n hx hb dX9_keep_16 rfl (lv_at hl 1 rfl) ?_
      refine ti_aald hx hb (aT4 hK) hT hv13 rfl hx1_6l (by decide) (fun _ _ _ => rfl) dX9_keep_17 (fun v17 hv17 => ?_)
      refine lv_aload_n hx hb dX9_keep_18 rfl (lv_at hl 0 rfl) ?_
      refine ti_getr hx hb hts inlX9 hown hK hT ha0 rfl rfl 1 (by decide) (hts _ kw_20) (fun _ h9 => h9) rfl dX9_keep_19 (fun v19 hv19 => ?_)
      refine ti_callv (va_runV (As := [.ref v19]) (rest := []) ⟨hx, hb, hml, hown, hts⟩ (t_X7_copyFrom l hT hv17 hv19) (cwV 1 hts (good_V kw_342 kw_343 kw_344 kw_19 kw_345) rfl rfl rfl (by decide +kernel) ⟨by rw [hR]; decide, by rw [hR]; decide⟩) (ti_preV hK hT hv17 rfl rfl) rfl rfl hl.1 rfl (lv_room (Nat.le_of_ble_eq_true rfl)) dX9_keep_22 ⟨Nat.zero_le _, Nat.zero_le _⟩) hS (fun _ h => h) (fun H1 locs hB hS _ _ => ?_)
      have hT := hB
      generalize H1 = H at hT hS ⊢
      refine lv_aload_n hx hb dX9_keep_25 rfl (lv_at hl 0 rfl) ?_
      refine ti_getr hx hb hts inlX9 hown hK hT ha0 rfl rfl 4 (by decide) (hts _ kw_24) (fun _ h9 => h9) rfl dX9_keep_26 (fun v26 hv26 => ?_)
      refine lv_iload_n hx hb dX9_keep_29 rfl (lv_at hl 1 rfl) ?_
      refine lv_iconst (v := 1) hx hb dX9_keep_30 (by decide) ?_
      refine ti_zast hx hb (aT2 hK) hT hS hv26 rfl hx1_6l (by decide) (fun _ _ _ => ⟨_, _, rfl, by decide, by decide⟩) (iv_w (iv_c (x := (1 : Int32)) (k := 1) (by decide)) (by decide)) (iv_c (x := (1 : Int32)) (k := 1) (by decide)) dX9_keep_31 (fun H locs hT hS => ?_)
      refine lv_iconst (v := 0) hx hb dX9_keep_32 (by decide) ?_
      exact ret _ _ _ _ _ dX9_keep_33 (⟨hT, by have b0a := (hx1_6l).1; have b0b := (hx1_6l).2; omega⟩) hS
    · skip
      have kl3 : (3 : Int32).toInt = 3 := by decide
      have f6 := i_nlt c6
      have hx1_6r : iv x1 3 2147483647 := iv_ler (iv_c (x := (3 : Int32)) (k := 3) (by decide)) hx1_1r (Int32.not_lt.mp c6) (by decide)
      refine lv_bipush (v := (-2)) hx hb dX9_keep_9 (by decide) ?_
      have klm2 : (-2 : Int32).toInt = (-2) := by decide
      exact ret _ _ _ _ _ dX9_keep_11 (⟨hT, by have b0a := (hx1_6r).1; have b0b := (hx1_6r).2; omega⟩) hS
set_option maxHeartbeats 4000000 in
set_option maxRecDepth 100000 in
theorem t_X9_back (l : Launch) {D : va_G} {c0 : Nat → ClassId} {Y : Nat → Option Nat} {H : Heap} (hT : TI D vwCl (tysOf c0) (RT1 false) Y H) {a0 : Nat} (ha0 : Y a0 = some 9) {x1 : Int32} (hx1 : iv x1 (-2147483648) 2147483647) : Met l yX9_back (wz yX9_back cX9_back 2 (some .int)) { frames := 0, cells := 0, slots := 0, locals := 0 } (TP D vwCl (tysOf c0) H [.ref a0, .int x1]) (TQi (fun x H' => H' = H ∧ (((x1.toInt < 0 ∨ 2 < x1.toInt) ∧ x.toInt = -2) ∨ (0 ≤ x1.toInt ∧ x1.toInt ≤ 2 ∧ x.toInt = -6))) Y) 0 0 (pA Y) := by
  refine Met.ofW (cc := cX9_back) (maxL := 2) (ret := (some .int)) (by decide) rfl ?_
  intro p e s m args below meth c s₁ B hml hv
  obtain ⟨rfl, rfl, hK⟩ := hv
  have hx := B.exec
  have hb := B.bytes
  have hr := B.returns
  have hts : ∀ w ∈ wq, w.before _ s = true := fun w h => atoms_spec (ws := wz yX9_back cX9_back 2 (some .int)) B.pre w (List.mem_cons_of_mem _ h)
  have hown : s.vm.findClass RX9 = some m.cls := findClass_of_methodNamed B.named
  have hlocks := B.notSynchronized
  obtain ⟨R, hR⟩ : ∃ R : Room, R = ({ frames := 0, cells := 0, slots := 0, locals := 0 } : Room) := ⟨_, rfl⟩
  rw [show (headSpec (wz yX9_back cX9_back 2 (some .int)) { frames := 0, cells := 0, slots := 0, locals := 0 }).room = R from hR.symm]
  refine ti_mi hx hb hr hlocks (fun Q ret => ?_)
  have hl := lv_entry [.ref a0, .int x1] (n := 2) (Nat.le_of_ble_eq_true rfl)
  rw [lg_entry_eq]
  generalize (lg_sl [.ref a0, .int x1] ++ List.replicate (2 - (lg_sl [.ref a0, .int x1]).length) Slot.unset).toArray = ls at hl ⊢
  have hl : lv_has ls 2 [(0, .ref a0), (1, .int x1)] := hl
  have hS : va_S (pA Y) s.heap s.heap [] := va_S.rf
  refine lv_iload_n hx hb dX9_back_0 rfl (lv_at hl 1 rfl) ?_
  refine lv_if_lt (tgt := 9) hx hb dX9_back_1 (by decide) (fun c1 => ?_) (fun c1 => ?_)
  · skip
    have kl0 : (0 : Int32).toInt = 0 := by decide
    have f1 := i_lt c1
    have hx1_1l : iv x1 (-2147483648) (-1) := iv_ltl hx1 (iv_c (x := (0 : Int32)) (k := 0) (by decide)) c1 (by decide)
    refine lv_bipush (v := (-2)) hx hb dX9_back_9 (by decide) ?_
    have klm2 : (-2 : Int32).toInt = (-2) := by decide
    exact ret _ _ _ _ _ dX9_back_11 (⟨rfl, by have b0a := (hx1_1l).1; have b0b := (hx1_1l).2; omega⟩) hS
  · skip
    have kl0 : (0 : Int32).toInt = 0 := by decide
    have f1 := i_nlt c1
    have hx1_1r : iv x1 0 2147483647 := iv_ler (iv_c (x := (0 : Int32)) (k := 0) (by decide)) hx1 (Int32.not_lt.mp c1) (by decide)
    refine lv_iload_n hx hb dX9_back_4 rfl (lv_at hl 1 rfl) ?_
    refine lv_iconst (v := 3) hx hb dX9_back_5 (by decide) ?_
    refine lv_icmp_lt (tgt := 12) hx hb dX9_back_6 (by decide) (fun c6 => ?_) (fun c6 => ?_)
    · skip
      have kl3 : (3 : Int32).toInt = 3 := by decide
      have f6 := i_lt c6
      have hx1_6l : iv x1 0 2 := iv_ltl hx1_1r (iv_c (x := (3 : Int32)) (k := 3) (by decide)) c6 (by decide)
      refine lv_aload_n hx hb dX9_back_12 rfl (lv_at hl 0 rfl) ?_
      refine ti_getr hx hb hts inlX9 hown hK hT ha0 rfl rfl 4 (by decide) (hts _ kw_24) (fun _ h9 => h9) rfl dX9_back_13 (fun v13 hv13 => ?_)
      refine lv_iload_n hx hb dX9_back_16 rfl (lv_at hl 1 rfl) ?_
      refine ti_zald (lo := 0) (hi := 0) hx hb (aT2 hK) hT hv13 rfl hx1_6l (by decide) (fun _ _ _ => ⟨_, _, rfl, by decide, by decide⟩) dX9_back_17 (fun v17 hv17 => ?_)
      refine lv_if_ne (tgt := 24) hx hb dX9_back_18 (by decide) (fun c18 => ?_) (fun c18 => ?_)
      · skip
        have f18 := i_ne c18
        exact (iv_no (show iv v17 1 (-1) from iv_nel hv17 (iv_c (x := (0 : Int32)) (k := 0) (by decide)) c18 (by decide)) (by decide)).elim
      · skip
        have f18 := i_eq c18
        refine lv_bipush (v := (-6)) hx hb dX9_back_21 (by decide) ?_
        have klm6 : (-6 : Int32).toInt = (-6) := by decide
        exact ret _ _ _ _ _ dX9_back_23 (⟨rfl, by have b0a := (hx1_6l).1; have b0b := (hx1_6l).2; have b1a := (hv17).1; have b1b := (hv17).2; omega⟩) hS
    · skip
      have kl3 : (3 : Int32).toInt = 3 := by decide
      have f6 := i_nlt c6
      have hx1_6r : iv x1 3 2147483647 := iv_ler (iv_c (x := (3 : Int32)) (k := 3) (by decide)) hx1_1r (Int32.not_lt.mp c6) (by decide)
      refine lv_bipush (v := (-2)) hx hb dX9_back_9 (by decide) ?_
      have klm2 : (-2 : Int32).toInt = (-2) := by decide
      exact ret _ _ _ _ _ dX9_back_11 (⟨rfl, by have b0a := (hx1_6r).1; have b0b := (hx1_6r).2; omega⟩) hS
set_option maxHeartbeats 4000000 in
set_option maxRecDepth 100000 in
theorem t_X9_row (l : Launch) {D : va_G} {c0 : Nat → ClassId} {Y : Nat → Option Nat} {H : Heap} (hT : TI D vwCl (tysOf c0) (RT1 true) Y H) {a0 : Nat} (ha0 : Y a0 = some 9) {x1 : Int32} (hx1 : iv x1 (-2147483648) 2147483647) {x2 : Int32} (hx2 : iv x2 (-2147483648) 2147483647) {x3 : Int32} (hx3 : iv x3 (-2147483648) 2147483647) : Met l yX9_row (wz yX9_row cX9_row 4 (some .int)) { frames := 1, cells := 0, slots := 0, locals := 23 } (TP D vwCl (tysOf c0) H [.ref a0, .int x1, .int x2, .int x3]) (TQi (fun x H' => TI D vwCl (tysOf c0) (RT1 true) Y H' ∧ (((x1.toInt < 0 ∨ 3 < x1.toInt ∨ x2.toInt < 0 ∨ 3 < x2.toInt ∨ 60 < x3.toInt) ∧ x.toInt = -2) ∨ (0 ≤ x1.toInt ∧ x1.toInt ≤ 3 ∧ 0 ≤ x2.toInt ∧ x2.toInt ≤ 3 ∧ x3.toInt < 0 ∧ x.toInt = -3) ∨ (0 ≤ x1.toInt ∧ x1.toInt ≤ 3 ∧ 0 ≤ x2.toInt ∧ x2.toInt ≤ 3 ∧ 0 ≤ x3.toInt ∧ x3.toInt ≤ 60 ∧ x.toInt = 0))) Y) 0 0 (pA Y) := by
  refine Met.ofW (cc := cX9_row) (maxL := 4) (ret := (some .int)) (by decide) rfl ?_
  intro p e s m args below meth c s₁ B hml hv
  obtain ⟨rfl, rfl, hK⟩ := hv
  have hx := B.exec
  have hb := B.bytes
  have hr := B.returns
  have hts : ∀ w ∈ wq, w.before _ s = true := fun w h => atoms_spec (ws := wz yX9_row cX9_row 4 (some .int)) B.pre w (List.mem_cons_of_mem _ h)
  have hown : s.vm.findClass RX9 = some m.cls := findClass_of_methodNamed B.named
  have hlocks := B.notSynchronized
  obtain ⟨R, hR⟩ : ∃ R : Room, R = ({ frames := 1, cells := 0, slots := 0, locals := 23 } : Room) := ⟨_, rfl⟩
  rw [show (headSpec (wz yX9_row cX9_row 4 (some .int)) { frames := 1, cells := 0, slots := 0, locals := 23 }).room = R from hR.symm]
  refine ti_mi hx hb hr hlocks (fun Q ret => ?_)
  have hl := lv_entry [.ref a0, .int x1, .int x2, .int x3] (n := 4) (Nat.le_of_ble_eq_true rfl)
  rw [lg_entry_eq]
  generalize (lg_sl [.ref a0, .int x1, .int x2, .int x3] ++ List.replicate (4 - (lg_sl [.ref a0, .int x1, .int x2, .int x3]).length) Slot.unset).toArray = ls at hl ⊢
  have hl : lv_has ls 4 [(0, .ref a0), (1, .int x1), (2, .int x2), (3, .int x3)] := hl
  refine ti_gen (P := fun H => TI D vwCl (tysOf c0) (RT1 true) Y H) (Y := Y) hT (fun H locs hT hS => ?_)
  refine lv_iload_n hx hb dX9_row_0 rfl (lv_at hl 1 rfl) ?_
  refine ti_calli (va_runS (As := [.int x1]) (rest := []) ⟨hx, hb, hml, hown, hts⟩ (t_X9_isSlot l hT (iv_w hx1 (by decide))) (cwS 1 hts (good_S kw_1533 kw_1534 kw_2 kw_1535) rfl rfl rfl (by decide +kernel) ⟨by rw [hR]; decide, by rw [hR]; decide⟩) (ti_preS hK) rfl rfl hl.1 rfl (lv_room (Nat.le_of_ble_eq_true rfl)) dX9_row_1 ⟨Nat.zero_le _, Nat.zero_le _⟩) hS (fun _ h => h) (fun v1 H1 locs hB hS _ _ => ?_)
  obtain ⟨hH, hv1, hp1⟩ := hB
  rw [hH] at hS ⊢
  refine lv_if_eq (tgt := 22) hx hb dX9_row_4 (by decide) (fun c4 => ?_) (fun c4 => ?_)
  · skip
    have kl0 : (0 : Int32).toInt = 0 := by decide
    have f4 := i_eq c4
    have hv1_4l : iv v1 0 0 := iv_eql hv1 (iv_c (x := (0 : Int32)) (k := 0) (by decide)) c4 (by decide)
    refine lv_bipush (v := (-2)) hx hb dX9_row_22 (by decide) ?_
    have klm2 : (-2 : Int32).toInt = (-2) := by decide
    exact ret _ _ _ _ _ dX9_row_24 (⟨hT, by have b0a := (hx1).1; have b0b := (hx1).2; have b1a := (hx2).1; have b1b := (hx2).2; have b2a := (hx3).1; have b2b := (hx3).2; have b3a := (hv1_4l).1; have b3b := (hv1_4l).2; omega⟩) hS
  · skip
    have kl0 : (0 : Int32).toInt = 0 := by decide
    have f4 := i_ne c4
    have hv1_4l : iv v1 1 1 := iv_nel hv1 (iv_c (x := (0 : Int32)) (k := 0) (by decide)) c4 (by decide)
    have hx1_4p : iv x1 0 3 := by have b0a := (hx1).1; have b0b := (hx1).2; exact ⟨by omega, by omega⟩
    refine lv_iload_n hx hb dX9_row_7 rfl (lv_at hl 2 rfl) ?_
    refine lv_if_lt (tgt := 22) hx hb dX9_row_8 (by decide) (fun c8 => ?_) (fun c8 => ?_)
    · skip
      have f8 := i_lt c8
      have hx2_8l : iv x2 (-2147483648) (-1) := iv_ltl hx2 (iv_c (x := (0 : Int32)) (k := 0) (by decide)) c8 (by decide)
      refine lv_bipush (v := (-2)) hx hb dX9_row_22 (by decide) ?_
      have klm2 : (-2 : Int32).toInt = (-2) := by decide
      exact ret _ _ _ _ _ dX9_row_24 (⟨hT, by have b0a := (hx1_4p).1; have b0b := (hx1_4p).2; have b1a := (hx2_8l).1; have b1b := (hx2_8l).2; have b2a := (hx3).1; have b2b := (hx3).2; have b3a := (hv1_4l).1; have b3b := (hv1_4l).2; omega⟩) hS
    · skip
      have f8 := i_nlt c8
      have hx2_8r : iv x2 0 2147483647 := iv_ler (iv_c (x := (0 : Int32)) (k := 0) (by decide)) hx2 (Int32.not_lt.mp c8) (by decide)
      refine lv_iload_n hx hb dX9_row_11 rfl (lv_at hl 2 rfl) ?_
      refine lv_iconst (v := 4) hx hb dX9_row_12 (by decide) ?_
      refine lv_icmp_ge (tgt := 22) hx hb dX9_row_13 (by decide) (fun c13 => ?_) (fun c13 => ?_)
      · skip
        have kl4 : (4 : Int32).toInt = 4 := by decide
        have f13 := i_le c13
        have hx2_13r : iv x2 4 2147483647 := iv_ler (iv_c (x := (4 : Int32)) (k := 4) (by decide)) hx2_8r c13 (by decide)
        refine lv_bipush (v := (-2)) hx hb dX9_row_22 (by decide) ?_
        have klm2 : (-2 : Int32).toInt = (-2) := by decide
        exact ret _ _ _ _ _ dX9_row_24 (⟨hT, by have b0a := (hx1_4p).1; have b0b := (hx1_4p).2; have b1a := (hx2_13r).1; have b1b := (hx2_13r).2; have b2a := (hx3).1; have b2b := (hx3).2; have b3a := (hv1_4l).1; have b3b := (hv1_4l).2; omega⟩) hS
      · skip
        have kl4 : (4 : Int32).toInt = 4 := by decide
        have f13 := i_nle c13
        have hx2_13l : iv x2 0 3 := iv_ltl hx2_8r (iv_c (x := (4 : Int32)) (k := 4) (by decide)) (Int32.not_le.mp c13) (by decide)
        refine lv_iload_n hx hb dX9_row_16 rfl (lv_at hl 3 rfl) ?_
        refine lv_bipush (v := 60) hx hb dX9_row_17 (by decide) ?_
        refine lv_icmp_le (tgt := 25) hx hb dX9_row_19 (by decide) (fun c19 => ?_) (fun c19 => ?_)
        · skip
          have kl60 : (60 : Int32).toInt = 60 := by decide
          have f19 := i_le c19
          have hx3_19l : iv x3 (-2147483648) 60 := iv_lel hx3 (iv_c (x := (60 : Int32)) (k := 60) (by decide)) c19 (by decide)
          refine lv_iload_n hx hb dX9_row_25 rfl (lv_at hl 3 rfl) ?_
          refine lv_if_ge (tgt := 32) hx hb dX9_row_26 (by decide) (fun c26 => ?_) (fun c26 => ?_)
          · skip
            have f26 := i_le c26
            have hx3_26r : iv x3 0 60 := iv_ler (iv_c (x := (0 : Int32)) (k := 0) (by decide)) hx3_19l c26 (by decide)
            refine lv_aload_n hx hb dX9_row_32 rfl (lv_at hl 0 rfl) ?_
            refine ti_getr hx hb hts inlX9 hown hK hT ha0 rfl rfl 5 (by decide) (hts _ kw_26) (fun _ h9 => h9) rfl dX9_row_33 (fun v33 hv33 => ?_)
            refine lv_iload_n hx hb dX9_row_36 rfl (lv_at hl 1 rfl) ?_
            refine ti_aald hx hb (aT5 hK) hT hv33 rfl hx1_4p (by decide) (fun _ _ _ => rfl) dX9_row_37 (fun v37 hv37 => ?_)
            refine lv_iload_n hx hb dX9_row_38 rfl (lv_at hl 2 rfl) ?_
            refine lv_iload_n hx hb dX9_row_39 rfl (lv_at hl 3 rfl) ?_
            refine ti_callv (va_runV (As := [.int x2, .int x3]) (rest := []) ⟨hx, hb, hml, hown, hts⟩ (t_X5_begin l hT hv37 (iv_w hx2_13l (by decide)) (iv_w hx3_26r (by decide))) (cwV 2 hts (good_V kw_1536 kw_1537 kw_1538 kw_43 kw_1539) rfl rfl rfl (by decide +kernel) ⟨by rw [hR]; decide, by rw [hR]; decide⟩) (ti_preV hK hT hv37 rfl rfl) rfl rfl hl.1 rfl (lv_room (Nat.le_of_ble_eq_true rfl)) dX9_row_40 ⟨Nat.zero_le _, Nat.zero_le _⟩) hS (fun _ h => h) (fun H1 locs hB hS _ _ => ?_)
            have hT := hB
            generalize H1 = H at hT hS ⊢
            refine lv_iconst (v := 0) hx hb dX9_row_43 (by decide) ?_
            exact ret _ _ _ _ _ dX9_row_44 (⟨hT, by have b0a := (hx1_4p).1; have b0b := (hx1_4p).2; have b1a := (hx2_13l).1; have b1b := (hx2_13l).2; have b2a := (hx3_26r).1; have b2b := (hx3_26r).2; have b3a := (hv1_4l).1; have b3b := (hv1_4l).2; omega⟩) hS
          · skip
            have f26 := i_nle c26
            have hx3_26l : iv x3 (-2147483648) (-1) := iv_ltl hx3_19l (iv_c (x := (0 : Int32)) (k := 0) (by decide)) (Int32.not_le.mp c26) (by decide)
            refine lv_bipush (v := (-3)) hx hb dX9_row_29 (by decide) ?_
            have klm3 : (-3 : Int32).toInt = (-3) := by decide
            exact ret _ _ _ _ _ dX9_row_31 (⟨hT, by have b0a := (hx1_4p).1; have b0b := (hx1_4p).2; have b1a := (hx2_13l).1; have b1b := (hx2_13l).2; have b2a := (hx3_26l).1; have b2b := (hx3_26l).2; have b3a := (hv1_4l).1; have b3b := (hv1_4l).2; omega⟩) hS
        · skip
          have kl60 : (60 : Int32).toInt = 60 := by decide
          have f19 := i_nle c19
          have hx3_19r : iv x3 61 2147483647 := iv_ltr (iv_c (x := (60 : Int32)) (k := 60) (by decide)) hx3 (Int32.not_le.mp c19) (by decide)
          refine lv_bipush (v := (-2)) hx hb dX9_row_22 (by decide) ?_
          have klm2 : (-2 : Int32).toInt = (-2) := by decide
          exact ret _ _ _ _ _ dX9_row_24 (⟨hT, by have b0a := (hx1_4p).1; have b0b := (hx1_4p).2; have b1a := (hx2_13l).1; have b1b := (hx2_13l).2; have b2a := (hx3_19r).1; have b2b := (hx3_19r).2; have b3a := (hv1_4l).1; have b3b := (hv1_4l).2; omega⟩) hS
set_option maxHeartbeats 4000000 in
set_option maxRecDepth 100000 in
theorem t_X9_write (l : Launch) {D : va_G} {c0 : Nat → ClassId} {Y : Nat → Option Nat} {H : Heap} (hT : TI D vwCl (tysOf c0) (RT1 false) Y H) {a0 : Nat} (ha0 : Y a0 = some 9) {x1 : Int32} (hx1 : iv x1 (-2147483648) 2147483647) {x2 : Int32} (hx2 : iv x2 (-2147483648) 2147483647) {x3 : Int64} (hx3 : jv x3 (-9223372036854775808) 9223372036854775807) : Met l yX9_write (wz yX9_write cX9_write 6 (some .int)) { frames := 1, cells := 0, slots := 0, locals := 20 } (TP D vwCl (tysOf c0) H [.ref a0, .int x1, .int x2, .long x3]) (TQi (fun x H' => H' = H ∧ (((x1.toInt < 0 ∨ 3 < x1.toInt) ∧ x.toInt = -2) ∨ (0 ≤ x1.toInt ∧ x1.toInt ≤ 3 ∧ x.toInt = -6))) Y) 0 0 (pA Y) := by
  refine Met.ofW (cc := cX9_write) (maxL := 6) (ret := (some .int)) (by decide) rfl ?_
  intro p e s m args below meth c s₁ B hml hv
  obtain ⟨rfl, rfl, hK⟩ := hv
  have hx := B.exec
  have hb := B.bytes
  have hr := B.returns
  have hts : ∀ w ∈ wq, w.before _ s = true := fun w h => atoms_spec (ws := wz yX9_write cX9_write 6 (some .int)) B.pre w (List.mem_cons_of_mem _ h)
  have hown : s.vm.findClass RX9 = some m.cls := findClass_of_methodNamed B.named
  have hlocks := B.notSynchronized
  obtain ⟨R, hR⟩ : ∃ R : Room, R = ({ frames := 1, cells := 0, slots := 0, locals := 20 } : Room) := ⟨_, rfl⟩
  rw [show (headSpec (wz yX9_write cX9_write 6 (some .int)) { frames := 1, cells := 0, slots := 0, locals := 20 }).room = R from hR.symm]
  refine ti_mi hx hb hr hlocks (fun Q ret => ?_)
  have hl := lv_entry [.ref a0, .int x1, .int x2, .long x3] (n := 6) (Nat.le_of_ble_eq_true rfl)
  rw [lg_entry_eq]
  generalize (lg_sl [.ref a0, .int x1, .int x2, .long x3] ++ List.replicate (6 - (lg_sl [.ref a0, .int x1, .int x2, .long x3]).length) Slot.unset).toArray = ls at hl ⊢
  have hl : lv_has ls 6 [(0, .ref a0), (1, .int x1), (2, .int x2), (3, .long x3)] := hl
  have hS : va_S (pA Y) s.heap s.heap [] := va_S.rf
  refine lv_iload_n hx hb dX9_write_0 rfl (lv_at hl 1 rfl) ?_
  refine ti_calli (va_runS (As := [.int x1]) (rest := []) ⟨hx, hb, hml, hown, hts⟩ (t_X9_isSlot l hT (iv_w hx1 (by decide))) (cwS 1 hts (good_S kw_1533 kw_1534 kw_2 kw_1535) rfl rfl rfl (by decide +kernel) ⟨by rw [hR]; decide, by rw [hR]; decide⟩) (ti_preS hK) rfl rfl hl.1 rfl (lv_room (Nat.le_of_ble_eq_true rfl)) dX9_write_1 ⟨Nat.zero_le _, Nat.zero_le _⟩) hS (fun _ h => h) (fun v1 H1 locs hB hS _ _ => ?_)
  obtain ⟨hH, hv1, hp1⟩ := hB
  rw [hH] at hS ⊢
  refine lv_if_ne (tgt := 10) hx hb dX9_write_4 (by decide) (fun c4 => ?_) (fun c4 => ?_)
  · skip
    have kl0 : (0 : Int32).toInt = 0 := by decide
    have f4 := i_ne c4
    have hv1_4l : iv v1 1 1 := iv_nel hv1 (iv_c (x := (0 : Int32)) (k := 0) (by decide)) c4 (by decide)
    have hx1_4p : iv x1 0 3 := by have b0a := (hx1).1; have b0b := (hx1).2; exact ⟨by omega, by omega⟩
    refine lv_aload_n hx hb dX9_write_10 rfl (lv_at hl 0 rfl) ?_
    refine ti_getr hx hb hts inlX9 hown hK hT ha0 rfl rfl 5 (by decide) (hts _ kw_26) (fun _ h9 => h9) rfl dX9_write_11 (fun v11 hv11 => ?_)
    refine lv_iload_n hx hb dX9_write_14 rfl (lv_at hl 1 rfl) ?_
    refine ti_aald hx hb (aT5 hK) hT hv11 rfl hx1_4p (by decide) (fun _ _ _ => rfl) dX9_write_15 (fun v15 hv15 => ?_)
    refine lv_astore (lv' := [(5, .ref v15), (0, .ref a0), (1, .int x1), (2, .int x2), (3, .long x3)]) hx hb dX9_write_16 hl (by decide) rfl (fun ls hl => ?_)
    refine lv_aload hx hb dX9_write_18 (lv_at hl 0 rfl) ?_
    refine ti_geti hx hb hts inlX5 hown hK hT hv15 rfl rfl 0 (by decide) (hts _ kw_799) (fun _ h9 => h9) rfl dX9_write_20 (fun v20 hv20 => ?_)
    refine lv_if_ne (tgt := 29) hx hb dX9_write_23 (by decide) (fun c23 => ?_) (fun c23 => ?_)
    · skip
      have f23 := i_ne c23
      exact (iv_no (show iv v20 1 (-1) from iv_nel hv20 (iv_c (x := (0 : Int32)) (k := 0) (by decide)) c23 (by decide)) (by decide)).elim
    · skip
      have f23 := i_eq c23
      refine lv_bipush (v := (-6)) hx hb dX9_write_26 (by decide) ?_
      have klm6 : (-6 : Int32).toInt = (-6) := by decide
      exact ret _ _ _ _ _ dX9_write_28 (⟨rfl, by have b0a := (hx1_4p).1; have b0b := (hx1_4p).2; have b1a := (hx2).1; have b1b := (hx2).2; have b2a := (hx3).1; have b2b := (hx3).2; have b3a := (hv1_4l).1; have b3b := (hv1_4l).2; have b4a := (hv20).1; have b4b := (hv20).2; omega⟩) hS
  · skip
    have kl0 : (0 : Int32).toInt = 0 := by decide
    have f4 := i_eq c4
    have hv1_4l : iv v1 0 0 := iv_eql hv1 (iv_c (x := (0 : Int32)) (k := 0) (by decide)) c4 (by decide)
    refine lv_bipush (v := (-2)) hx hb dX9_write_7 (by decide) ?_
    have klm2 : (-2 : Int32).toInt = (-2) := by decide
    exact ret _ _ _ _ _ dX9_write_9 (⟨rfl, by have b0a := (hx1).1; have b0b := (hx1).2; have b1a := (hx2).1; have b1b := (hx2).2; have b2a := (hx3).1; have b2b := (hx3).2; have b3a := (hv1_4l).1; have b3b := (hv1_4l).2; omega⟩) hS
set_option maxHeartbeats 4000000 in
set_option maxRecDepth 100000 in
theorem t_X9_paste (l : Launch) {D : va_G} {c0 : Nat → ClassId} {Y : Nat → Option Nat} {H : Heap} (hT : TI D vwCl (tysOf c0) (RT1 false) Y H) {a0 : Nat} (ha0 : Y a0 = some 9) {x1 : Int32} (hx1 : iv x1 (-2147483648) 2147483647) {x2 : Int32} (hx2 : iv x2 (-2147483648) 2147483647) {x3 : Int32} (hx3 : iv x3 (-2147483648) 2147483647) {x4 : Int32} (hx4 : iv x4 (-2147483648) 2147483647) {x5 : Int32} (hx5 : iv x5 (-2147483648) 2147483647) : Met l yX9_paste (wz yX9_paste cX9_paste 8 (some .int)) { frames := 1, cells := 0, slots := 0, locals := 20 } (TP D vwCl (tysOf c0) H [.ref a0, .int x1, .int x2, .int x3, .int x4, .int x5]) (TQi (fun x H' => H' = H ∧ (((x1.toInt < 0 ∨ 3 < x1.toInt ∨ x3.toInt < 0 ∨ 3 < x3.toInt) ∧ x.toInt = -2) ∨ (0 ≤ x1.toInt ∧ x1.toInt ≤ 3 ∧ 0 ≤ x3.toInt ∧ x3.toInt ≤ 3 ∧ x.toInt = -6))) Y) 0 0 (pA Y) := by
  refine Met.ofW (cc := cX9_paste) (maxL := 8) (ret := (some .int)) (by decide) rfl ?_
  intro p e s m args below meth c s₁ B hml hv
  obtain ⟨rfl, rfl, hK⟩ := hv
  have hx := B.exec
  have hb := B.bytes
  have hr := B.returns
  have hts : ∀ w ∈ wq, w.before _ s = true := fun w h => atoms_spec (ws := wz yX9_paste cX9_paste 8 (some .int)) B.pre w (List.mem_cons_of_mem _ h)
  have hown : s.vm.findClass RX9 = some m.cls := findClass_of_methodNamed B.named
  have hlocks := B.notSynchronized
  obtain ⟨R, hR⟩ : ∃ R : Room, R = ({ frames := 1, cells := 0, slots := 0, locals := 20 } : Room) := ⟨_, rfl⟩
  rw [show (headSpec (wz yX9_paste cX9_paste 8 (some .int)) { frames := 1, cells := 0, slots := 0, locals := 20 }).room = R from hR.symm]
  refine ti_mi hx hb hr hlocks (fun Q ret => ?_)
  have hl := lv_entry [.ref a0, .int x1, .int x2, .int x3, .int x4, .int x5] (n := 8) (Nat.le_of_ble_eq_true rfl)
  rw [lg_entry_eq]
  generalize (lg_sl [.ref a0, .int x1, .int x2, .int x3, .int x4, .int x5] ++ List.replicate (8 - (lg_sl [.ref a0, .int x1, .int x2, .int x3, .int x4, .int x5]).length) Slot.unset).toArray = ls at hl ⊢
  have hl : lv_has ls 8 [(0, .ref a0), (1, .int x1), (2, .int x2), (3, .int x3), (4, .int x4), (5, .int x5)] := hl
  have hS : va_S (pA Y) s.heap s.heap [] := va_S.rf
  refine lv_iload_n hx hb dX9_paste_0 rfl (lv_at hl 1 rfl) ?_
  refine ti_calli (va_runS (As := [.int x1]) (rest := []) ⟨hx, hb, hml, hown, hts⟩ (t_X9_isSlot l hT (iv_w hx1 (by decide))) (cwS 1 hts (good_S kw_1533 kw_1534 kw_2 kw_1535) rfl rfl rfl (by decide +kernel) ⟨by rw [hR]; decide, by rw [hR]; decide⟩) (ti_preS hK) rfl rfl hl.1 rfl (lv_room (Nat.le_of_ble_eq_true rfl)) dX9_paste_1 ⟨Nat.zero_le _, Nat.zero_le _⟩) hS (fun _ h => h) (fun v1 H1 locs hB hS _ _ => ?_)
  obtain ⟨hH, hv1, hp1⟩ := hB
  rw [hH] at hS ⊢
  refine lv_if_eq (tgt := 14) hx hb dX9_paste_4 (by decide) (fun c4 => ?_) (fun c4 => ?_)
  · skip
    have kl0 : (0 : Int32).toInt = 0 := by decide
    have f4 := i_eq c4
    have hv1_4l : iv v1 0 0 := iv_eql hv1 (iv_c (x := (0 : Int32)) (k := 0) (by decide)) c4 (by decide)
    refine lv_bipush (v := (-2)) hx hb dX9_paste_14 (by decide) ?_
    have klm2 : (-2 : Int32).toInt = (-2) := by decide
    exact ret _ _ _ _ _ dX9_paste_16 (⟨rfl, by have b0a := (hx1).1; have b0b := (hx1).2; have b1a := (hx2).1; have b1b := (hx2).2; have b2a := (hx3).1; have b2b := (hx3).2; have b3a := (hx4).1; have b3b := (hx4).2; have b4a := (hx5).1; have b4b := (hx5).2; have b5a := (hv1_4l).1; have b5b := (hv1_4l).2; omega⟩) hS
  · skip
    have kl0 : (0 : Int32).toInt = 0 := by decide
    have f4 := i_ne c4
    have hv1_4l : iv v1 1 1 := iv_nel hv1 (iv_c (x := (0 : Int32)) (k := 0) (by decide)) c4 (by decide)
    have hx1_4p : iv x1 0 3 := by have b0a := (hx1).1; have b0b := (hx1).2; exact ⟨by omega, by omega⟩
    refine lv_iload_n hx hb dX9_paste_7 rfl (lv_at hl 3 rfl) ?_
    refine ti_calli (va_runS (As := [.int x3]) (rest := []) ⟨hx, hb, hml, hown, hts⟩ (t_X9_isSlot l hT (iv_w hx3 (by decide))) (cwS 1 hts (good_S kw_1533 kw_1534 kw_2 kw_1535) rfl rfl rfl (by decide +kernel) ⟨by rw [hR]; decide, by rw [hR]; decide⟩) (ti_preS hK) rfl rfl hl.1 rfl (lv_room (Nat.le_of_ble_eq_true rfl)) dX9_paste_8 ⟨Nat.zero_le _, Nat.zero_le _⟩) hS (fun _ h => h) (fun v8 H1 locs hB hS _ _ => ?_)
    obtain ⟨hH, hv8, hp8⟩ := hB
    rw [hH] at hS ⊢
    refine lv_if_ne (tgt := 17) hx hb dX9_paste_11 (by decide) (fun c11 => ?_) (fun c11 => ?_)
    · skip
      have f11 := i_ne c11
      have hv8_11l : iv v8 1 1 := iv_nel hv8 (iv_c (x := (0 : Int32)) (k := 0) (by decide)) c11 (by decide)
      have hx3_11p : iv x3 0 3 := by have b0a := (hx3).1; have b0b := (hx3).2; exact ⟨by omega, by omega⟩
      refine lv_aload_n hx hb dX9_paste_17 rfl (lv_at hl 0 rfl) ?_
      refine ti_getr hx hb hts inlX9 hown hK hT ha0 rfl rfl 5 (by decide) (hts _ kw_26) (fun _ h9 => h9) rfl dX9_paste_18 (fun v18 hv18 => ?_)
      refine lv_iload_n hx hb dX9_paste_21 rfl (lv_at hl 1 rfl) ?_
      refine ti_aald hx hb (aT5 hK) hT hv18 rfl hx1_4p (by decide) (fun _ _ _ => rfl) dX9_paste_22 (fun v22 hv22 => ?_)
      refine lv_astore (lv' := [(6, .ref v22), (0, .ref a0), (1, .int x1), (2, .int x2), (3, .int x3), (4, .int x4), (5, .int x5)]) hx hb dX9_paste_23 hl (by decide) rfl (fun ls hl => ?_)
      refine lv_aload_n hx hb dX9_paste_25 rfl (lv_at hl 1 rfl) ?_
      refine ti_getr hx hb hts inlX9 hown hK hT ha0 rfl rfl 5 (by decide) (hts _ kw_26) (fun _ h9 => h9) rfl dX9_paste_26 (fun v26 hv26 => ?_)
      refine lv_iload_n hx hb dX9_paste_29 rfl (lv_at hl 4 rfl) ?_
      refine ti_aald hx hb (aT5 hK) hT hv26 rfl hx3_11p (by decide) (fun _ _ _ => rfl) dX9_paste_30 (fun v30 hv30 => ?_)
      refine lv_astore (lv' := [(7, .ref v30), (6, .ref v22), (0, .ref a0), (1, .int x1), (2, .int x2), (3, .int x3), (4, .int x4), (5, .int x5)]) hx hb dX9_paste_31 hl (by decide) rfl (fun ls hl => ?_)
      refine lv_aload hx hb dX9_paste_33 (lv_at hl 1 rfl) ?_
      refine ti_geti hx hb hts inlX5 hown hK hT hv22 rfl rfl 0 (by decide) (hts _ kw_799) (fun _ h9 => h9) rfl dX9_paste_35 (fun v35 hv35 => ?_)
      refine lv_if_eq (tgt := 49) hx hb dX9_paste_38 (by decide) (fun c38 => ?_) (fun c38 => ?_)
      · skip
        have f38 := i_eq c38
        refine lv_bipush (v := (-6)) hx hb dX9_paste_49 (by decide) ?_
        have klm6 : (-6 : Int32).toInt = (-6) := by decide
        exact ret _ _ _ _ _ dX9_paste_51 (⟨rfl, by have b0a := (hx1_4p).1; have b0b := (hx1_4p).2; have b1a := (hx2).1; have b1b := (hx2).2; have b2a := (hx3_11p).1; have b2b := (hx3_11p).2; have b3a := (hx4).1; have b3b := (hx4).2; have b4a := (hx5).1; have b4b := (hx5).2; have b5a := (hv1_4l).1; have b5b := (hv1_4l).2; have b6a := (hv8_11l).1; have b6b := (hv8_11l).2; have b7a := (hv35).1; have b7b := (hv35).2; omega⟩) hS
      · skip
        have f38 := i_ne c38
        exact (iv_no (show iv v35 1 (-1) from iv_nel hv35 (iv_c (x := (0 : Int32)) (k := 0) (by decide)) c38 (by decide)) (by decide)).elim
    · skip
      have f11 := i_eq c11
      have hv8_11l : iv v8 0 0 := iv_eql hv8 (iv_c (x := (0 : Int32)) (k := 0) (by decide)) c11 (by decide)
      refine lv_bipush (v := (-2)) hx hb dX9_paste_14 (by decide) ?_
      have klm2 : (-2 : Int32).toInt = (-2) := by decide
      exact ret _ _ _ _ _ dX9_paste_16 (⟨rfl, by have b0a := (hx1_4p).1; have b0b := (hx1_4p).2; have b1a := (hx2).1; have b1b := (hx2).2; have b2a := (hx3).1; have b2b := (hx3).2; have b3a := (hx4).1; have b3b := (hx4).2; have b4a := (hx5).1; have b4b := (hx5).2; have b5a := (hv1_4l).1; have b5b := (hv1_4l).2; have b6a := (hv8_11l).1; have b6b := (hv8_11l).2; omega⟩) hS
set_option maxHeartbeats 4000000 in
set_option maxRecDepth 100000 in
theorem t_X10_keep (l : Launch) {D : va_G} {c0 : Nat → ClassId} {Y : Nat → Option Nat} {H : Heap} (hT : TI D vwCl (tysOf c0) (RT1 true) Y H) {a0 : Nat} (ha0 : Y a0 = some 10) {x1 : Int32} (hx1 : iv x1 (-2147483648) 2147483647) : Met l yX10_keep (wz yX10_keep cX10_keep 3 (some .int)) { frames := 1, cells := 0, slots := 0, locals := 25 } (TP D vwCl (tysOf c0) H [.ref a0, .int x1]) (TQi (fun x H' => TI D vwCl (tysOf c0) (RT1 true) Y H' ∧ (((x1.toInt < 0 ∨ 2 < x1.toInt) ∧ x.toInt = -2) ∨ (0 ≤ x1.toInt ∧ x1.toInt ≤ 2 ∧ x.toInt = 0))) Y) 0 0 (pA Y) := by
  refine Met.ofW (cc := cX10_keep) (maxL := 3) (ret := (some .int)) (by decide) rfl ?_
  intro p e s m args below meth c s₁ B hml hv
  obtain ⟨rfl, rfl, hK⟩ := hv
  have hx := B.exec
  have hb := B.bytes
  have hr := B.returns
  have hts : ∀ w ∈ wq, w.before _ s = true := fun w h => atoms_spec (ws := wz yX10_keep cX10_keep 3 (some .int)) B.pre w (List.mem_cons_of_mem _ h)
  have hown : s.vm.findClass RX10 = some m.cls := findClass_of_methodNamed B.named
  have hlocks := B.notSynchronized
  obtain ⟨R, hR⟩ : ∃ R : Room, R = ({ frames := 1, cells := 0, slots := 0, locals := 25 } : Room) := ⟨_, rfl⟩
  rw [show (headSpec (wz yX10_keep cX10_keep 3 (some .int)) { frames := 1, cells := 0, slots := 0, locals := 25 }).room = R from hR.symm]
  refine ti_mi hx hb hr hlocks (fun Q ret => ?_)
  have hl := lv_entry [.ref a0, .int x1] (n := 3) (Nat.le_of_ble_eq_true rfl)
  rw [lg_entry_eq]
  generalize (lg_sl [.ref a0, .int x1] ++ List.replicate (3 - (lg_sl [.ref a0, .int x1]).length) Slot.unset).toArray = ls at hl ⊢
  have hl : lv_has ls 3 [(0, .ref a0), (1, .int x1)] := hl
  refine ti_gen (P := fun H => TI D vwCl (tysOf c0) (RT1 true) Y H) (Y := Y) hT (fun H locs hT hS => ?_)
  refine lv_iload_n hx hb dX10_keep_0 rfl (lv_at hl 1 rfl) ?_
  refine lv_i2l hx hb dX10_keep_1 rfl ?_
  refine lv_topl (fun v1 e1 => ?_)
  have hv1 : jv v1 (-2147483648) 2147483647 := by rw [e1]; exact jv_i hx1
  have t1 : v1.toInt = x1.toInt := by rw [e1]; exact jv_e _
  refine lv_lconst (v := 0) hx hb dX10_keep_2 (by decide) ?_
  have kj0 : (0 : Int64).toInt = 0 := by decide
  refine lv_ldc2 (v := 2) hx hb hown (hts _ kw_1218) dX10_keep_3 ?_
  have kj2 : (2 : Int64).toInt = 2 := by decide
  refine ti_calli (va_runS (As := [.long v1, .long (0 : Int64), .long (2 : Int64)]) (rest := []) ⟨hx, hb, hml, hown, hts⟩ (t_X10_in l hT (jv_w hv1 (by decide)) (jv_w (jv_c (x := (0 : Int64)) (k := 0) (by decide)) (by decide)) (jv_w (jv_c (x := (2 : Int64)) (k := 2) (by decide)) (by decide))) (cwS 3 hts (good_S kw_181 kw_182 kw_5 kw_183) rfl rfl rfl (by decide +kernel) ⟨by rw [hR]; decide, by rw [hR]; decide⟩) (ti_preS hK) rfl rfl hl.1 rfl (lv_room (Nat.le_of_ble_eq_true rfl)) dX10_keep_6 ⟨Nat.zero_le _, Nat.zero_le _⟩) hS (fun _ h => h) (fun v6 H1 locs hB hS _ _ => ?_)
  obtain ⟨hH, hv6, hp6⟩ := hB
  rw [hH] at hS ⊢
  refine lv_if_ne (tgt := 15) hx hb dX10_keep_9 (by decide) (fun c9 => ?_) (fun c9 => ?_)
  · skip
    have kl0 : (0 : Int32).toInt = 0 := by decide
    have f9 := i_ne c9
    have hv6_9l : iv v6 1 1 := iv_nel hv6 (iv_c (x := (0 : Int32)) (k := 0) (by decide)) c9 (by decide)
    have hv1_9p : jv v1 0 2 := by have b0a := (hv1).1; have b0b := (hv1).2; have b1a := ((jv_c (x := (0 : Int64)) (k := 0) (by decide))).1; have b1b := ((jv_c (x := (0 : Int64)) (k := 0) (by decide))).2; have b2a := ((jv_c (x := (2 : Int64)) (k := 2) (by decide))).1; have b2b := ((jv_c (x := (2 : Int64)) (k := 2) (by decide))).2; exact ⟨by omega, by omega⟩
    have hx1_9p : iv x1 0 2 := by have := t1; have b0a := (hv1_9p).1; have b0b := (hv1_9p).2; have b1a := (hx1).1; have b1b := (hx1).2; exact ⟨by omega, by omega⟩
    refine lv_iconst (v := 0) hx hb dX10_keep_15 (by decide) ?_
    have J17 : ∀ (n : Nat) (j17_L2 : Int32) (H : Heap) (locs : List Loc) (ls : Array Slot), (178 - j17_L2.toInt).toNat < n → iv j17_L2 0 178 → TI D vwCl (tysOf c0) (RT1 true) Y H → va_S (pA Y) s.heap H locs → lv_has ls 3 [(0, .ref a0), (1, .int x1), (2, .int j17_L2)] → W p l e R s m ([.ref a0, .int x1] : List Value).toArray below meth c H locs 0 0 Q (F0 m 17 ls []) := by
      intro n
      induction n with
      | zero => intro j17_L2 H locs ls hm; exact absurd hm (Nat.not_lt_zero _)
      | succ n ih =>
        intro j17_L2 H locs ls hm hj17_L2 hT hS hl
        refine lv_iload_n hx hb dX10_keep_17 rfl (lv_at hl 2 rfl) ?_
        refine lv_sipush (v := 178) hx hb dX10_keep_18 (by decide) ?_
        refine lv_icmp_ge (tgt := 48) hx hb dX10_keep_21 (by decide) (fun c21 => ?_) (fun c21 => ?_)
        · skip
          have kl178 : (178 : Int32).toInt = 178 := by decide
          have f21 := i_le c21
          have hj17_L2_21r : iv j17_L2 178 178 := iv_ler (iv_c (x := (178 : Int32)) (k := 178) (by decide)) hj17_L2 c21 (by decide)
          refine lv_aload_n hx hb dX10_keep_48 rfl (lv_at hl 0 rfl) ?_
          refine ti_getr hx hb hts inlX10 hown hK hT ha0 rfl rfl 3 (by decide) (hts _ kw_132) (fun _ h9 => h9) rfl dX10_keep_49 (fun v49 hv49 => ?_)
          refine lv_iload_n hx hb dX10_keep_52 rfl (lv_at hl 1 rfl) ?_
          refine lv_aload_n hx hb dX10_keep_53 rfl (lv_at hl 0 rfl) ?_
          refine ti_getl hx hb hts inlX10 hown hK hT ha0 rfl rfl 16 (by decide) (hts _ kw_382) (fun _ h9 => h9) rfl dX10_keep_54 (fun v54 => ?_)
          refine ti_last hx hb (aT3 hK) hT hS hv49 rfl hx1_9p (by decide) (fun _ _ _ => rfl)  dX10_keep_57 (fun H locs hT hS => ?_)
          refine lv_aload_n hx hb dX10_keep_58 rfl (lv_at hl 0 rfl) ?_
          refine ti_getr hx hb hts inlX10 hown hK hT ha0 rfl rfl 4 (by decide) (hts _ kw_133) (fun _ h9 => h9) rfl dX10_keep_59 (fun v59 hv59 => ?_)
          refine lv_iload_n hx hb dX10_keep_62 rfl (lv_at hl 1 rfl) ?_
          refine lv_iconst (v := 1) hx hb dX10_keep_63 (by decide) ?_
          refine ti_zast hx hb (aT2 hK) hT hS hv59 rfl hx1_9p (by decide) (fun _ _ _ => ⟨_, _, rfl, by decide, by decide⟩) (iv_w (iv_c (x := (1 : Int32)) (k := 1) (by decide)) (by decide)) (iv_c (x := (1 : Int32)) (k := 1) (by decide)) dX10_keep_64 (fun H locs hT hS => ?_)
          refine lv_iconst (v := 0) hx hb dX10_keep_65 (by decide) ?_
          exact ret _ _ _ _ _ dX10_keep_66 (⟨hT, by have b0a := (hx1_9p).1; have b0b := (hx1_9p).2; have b1a := (hv1_9p).1; have b1b := (hv1_9p).2; have b2a := (hv6_9l).1; have b2b := (hv6_9l).2; have b3a := (hj17_L2_21r).1; have b3b := (hj17_L2_21r).2; have b4a := ((jv_top v54)).1; have b4b := ((jv_top v54)).2; omega⟩) hS
        · skip
          have kl178 : (178 : Int32).toInt = 178 := by decide
          have f21 := i_nle c21
          have hj17_L2_21l : iv j17_L2 0 177 := iv_ltl hj17_L2 (iv_c (x := (178 : Int32)) (k := 178) (by decide)) (Int32.not_le.mp c21) (by decide)
          refine lv_aload_n hx hb dX10_keep_24 rfl (lv_at hl 0 rfl) ?_
          refine ti_getr hx hb hts inlX10 hown hK hT ha0 rfl rfl 2 (by decide) (hts _ kw_131) (fun _ h9 => h9) rfl dX10_keep_25 (fun v25 hv25 => ?_)
          refine lv_sipush (v := 178) hx hb dX10_keep_28 (by decide) ?_
          refine lv_iload_n hx hb dX10_keep_31 rfl (lv_at hl 1 rfl) ?_
          refine lv_imul hx hb dX10_keep_32 ?_
          refine lv_topi (fun v32 e32 => ?_)
          have hv32 : iv v32 0 356 := by rw [e32]; exact iv_mul (iv_c (x := (178 : Int32)) (k := 178) (by decide)) hx1_9p (by decide)
          refine lv_iload_n hx hb dX10_keep_33 rfl (lv_at hl 2 rfl) ?_
          refine lv_iadd hx hb dX10_keep_34 ?_
          refine lv_topi (fun v34 e34 => ?_)
          have hv34 : iv v34 0 533 := by rw [e34]; exact iv_w (iv_add hv32 hj17_L2_21l (by decide)) (by decide)
          have s34 : v34.toInt = v32.toInt + j17_L2.toInt := by rw [e34]; exact iv_addE hv32 hj17_L2_21l (by decide)
          refine lv_aload_n hx hb dX10_keep_35 rfl (lv_at hl 0 rfl) ?_
          refine ti_getr hx hb hts inlX10 hown hK hT ha0 rfl rfl 1 (by decide) (hts _ kw_130) (fun _ h9 => h9) rfl dX10_keep_36 (fun v36 hv36 => ?_)
          refine lv_iload_n hx hb dX10_keep_39 rfl (lv_at hl 2 rfl) ?_
          refine ti_iald (lo := (-2147483648)) (hi := 2147483647) hx hb (aT0 hK) hT hv36 rfl hj17_L2_21l (by decide) (fun j h1 h2 => wf1_ld _ j) dX10_keep_40 (fun v40 hv40 => ?_)
          refine ti_iast hx hb (aT0 hK) hT hS hv25 rfl hv34 (by decide) (fun _ _ _ => ⟨_, _, rfl, by decide, by decide⟩) hv40 dX10_keep_41 (fun H locs hT hS => ?_)
          obtain ⟨v42, e42⟩ : ∃ y : Int32, y = j17_L2 + 1 := ⟨_, rfl⟩
          have hv42 : iv v42 1 178 := by rw [e42]; exact iv_w (iv_add hj17_L2_21l (iv_c (x := (1 : Int32)) (k := 1) (by decide)) (by decide)) (by decide)
          have s42 : v42.toInt = j17_L2.toInt + 1 := by rw [e42, iv_addE hj17_L2_21l (iv_c (x := (1 : Int32)) (k := 1) (by decide)) (by decide)]; rfl
          refine lv_iinc (v := v42) (lv' := [(2, .int v42), (0, .ref a0), (1, .int x1)]) hx hb dX10_keep_42 hl (k := 2) rfl (by rw [e42]; rfl) (by decide) rfl (fun ls hl => ?_)
          refine lv_goto (tgt := 17) hx hb dX10_keep_45 (by decide) ?_
          exact ih v42 _ _ _ (ms_up hm (by have := s42; omega) (iv_w (c := 1) (d := 178) hv42 (by decide)).2) (iv_w hv42 (by decide)) hT hS (lv_sub hl [1, 2, 0] rfl)
    refine lv_istore_n (lv' := [(2, .int (0 : Int32)), (0, .ref a0), (1, .int x1)]) hx hb dX10_keep_16 rfl hl (by decide) rfl (fun ls hl => ?_)
    exact J17 _ (0 : Int32) _ _ _ (Nat.lt_succ_self _) (iv_w (iv_c (x := (0 : Int32)) (k := 0) (by decide)) (by decide)) hT hS (lv_sub hl [1, 2, 0] rfl)
  · skip
    have kl0 : (0 : Int32).toInt = 0 := by decide
    have f9 := i_eq c9
    have hv6_9l : iv v6 0 0 := iv_eql hv6 (iv_c (x := (0 : Int32)) (k := 0) (by decide)) c9 (by decide)
    refine lv_bipush (v := (-2)) hx hb dX10_keep_12 (by decide) ?_
    have klm2 : (-2 : Int32).toInt = (-2) := by decide
    exact ret _ _ _ _ _ dX10_keep_14 (⟨hT, by have b0a := (hx1).1; have b0b := (hx1).2; have b1a := (hv1).1; have b1b := (hv1).2; have b2a := (hv6_9l).1; have b2b := (hv6_9l).2; omega⟩) hS
set_option maxHeartbeats 4000000 in
set_option maxRecDepth 100000 in
theorem t_X10_back (l : Launch) {D : va_G} {c0 : Nat → ClassId} {Y : Nat → Option Nat} {H : Heap} (hT : TI D vwCl (tysOf c0) (RT1 false) Y H) {a0 : Nat} (ha0 : Y a0 = some 10) {x1 : Int32} (hx1 : iv x1 (-2147483648) 2147483647) : Met l yX10_back (wz yX10_back cX10_back 3 (some .int)) { frames := 1, cells := 0, slots := 0, locals := 25 } (TP D vwCl (tysOf c0) H [.ref a0, .int x1]) (TQi (fun x H' => H' = H ∧ (((x1.toInt < 0 ∨ 2 < x1.toInt) ∧ x.toInt = -2) ∨ (0 ≤ x1.toInt ∧ x1.toInt ≤ 2 ∧ x.toInt = -6))) Y) 0 0 (pA Y) := by
  refine Met.ofW (cc := cX10_back) (maxL := 3) (ret := (some .int)) (by decide) rfl ?_
  intro p e s m args below meth c s₁ B hml hv
  obtain ⟨rfl, rfl, hK⟩ := hv
  have hx := B.exec
  have hb := B.bytes
  have hr := B.returns
  have hts : ∀ w ∈ wq, w.before _ s = true := fun w h => atoms_spec (ws := wz yX10_back cX10_back 3 (some .int)) B.pre w (List.mem_cons_of_mem _ h)
  have hown : s.vm.findClass RX10 = some m.cls := findClass_of_methodNamed B.named
  have hlocks := B.notSynchronized
  obtain ⟨R, hR⟩ : ∃ R : Room, R = ({ frames := 1, cells := 0, slots := 0, locals := 25 } : Room) := ⟨_, rfl⟩
  rw [show (headSpec (wz yX10_back cX10_back 3 (some .int)) { frames := 1, cells := 0, slots := 0, locals := 25 }).room = R from hR.symm]
  refine ti_mi hx hb hr hlocks (fun Q ret => ?_)
  have hl := lv_entry [.ref a0, .int x1] (n := 3) (Nat.le_of_ble_eq_true rfl)
  rw [lg_entry_eq]
  generalize (lg_sl [.ref a0, .int x1] ++ List.replicate (3 - (lg_sl [.ref a0, .int x1]).length) Slot.unset).toArray = ls at hl ⊢
  have hl : lv_has ls 3 [(0, .ref a0), (1, .int x1)] := hl
  have hS : va_S (pA Y) s.heap s.heap [] := va_S.rf
  refine lv_iload_n hx hb dX10_back_0 rfl (lv_at hl 1 rfl) ?_
  refine lv_i2l hx hb dX10_back_1 rfl ?_
  refine lv_topl (fun v1 e1 => ?_)
  have hv1 : jv v1 (-2147483648) 2147483647 := by rw [e1]; exact jv_i hx1
  have t1 : v1.toInt = x1.toInt := by rw [e1]; exact jv_e _
  refine lv_lconst (v := 0) hx hb dX10_back_2 (by decide) ?_
  have kj0 : (0 : Int64).toInt = 0 := by decide
  refine lv_ldc2 (v := 2) hx hb hown (hts _ kw_1218) dX10_back_3 ?_
  have kj2 : (2 : Int64).toInt = 2 := by decide
  refine ti_calli (va_runS (As := [.long v1, .long (0 : Int64), .long (2 : Int64)]) (rest := []) ⟨hx, hb, hml, hown, hts⟩ (t_X10_in l hT (jv_w hv1 (by decide)) (jv_w (jv_c (x := (0 : Int64)) (k := 0) (by decide)) (by decide)) (jv_w (jv_c (x := (2 : Int64)) (k := 2) (by decide)) (by decide))) (cwS 3 hts (good_S kw_181 kw_182 kw_5 kw_183) rfl rfl rfl (by decide +kernel) ⟨by rw [hR]; decide, by rw [hR]; decide⟩) (ti_preS hK) rfl rfl hl.1 rfl (lv_room (Nat.le_of_ble_eq_true rfl)) dX10_back_6 ⟨Nat.zero_le _, Nat.zero_le _⟩) hS (fun _ h => h) (fun v6 H1 locs hB hS _ _ => ?_)
  obtain ⟨hH, hv6, hp6⟩ := hB
  rw [hH] at hS ⊢
  refine lv_if_ne (tgt := 15) hx hb dX10_back_9 (by decide) (fun c9 => ?_) (fun c9 => ?_)
  · skip
    have kl0 : (0 : Int32).toInt = 0 := by decide
    have f9 := i_ne c9
    have hv6_9l : iv v6 1 1 := iv_nel hv6 (iv_c (x := (0 : Int32)) (k := 0) (by decide)) c9 (by decide)
    have hv1_9p : jv v1 0 2 := by have b0a := (hv1).1; have b0b := (hv1).2; have b1a := ((jv_c (x := (0 : Int64)) (k := 0) (by decide))).1; have b1b := ((jv_c (x := (0 : Int64)) (k := 0) (by decide))).2; have b2a := ((jv_c (x := (2 : Int64)) (k := 2) (by decide))).1; have b2b := ((jv_c (x := (2 : Int64)) (k := 2) (by decide))).2; exact ⟨by omega, by omega⟩
    have hx1_9p : iv x1 0 2 := by have := t1; have b0a := (hv1_9p).1; have b0b := (hv1_9p).2; have b1a := (hx1).1; have b1b := (hx1).2; exact ⟨by omega, by omega⟩
    refine lv_aload_n hx hb dX10_back_15 rfl (lv_at hl 0 rfl) ?_
    refine ti_getr hx hb hts inlX10 hown hK hT ha0 rfl rfl 4 (by decide) (hts _ kw_133) (fun _ h9 => h9) rfl dX10_back_16 (fun v16 hv16 => ?_)
    refine lv_iload_n hx hb dX10_back_19 rfl (lv_at hl 1 rfl) ?_
    refine ti_zald (lo := 0) (hi := 0) hx hb (aT2 hK) hT hv16 rfl hx1_9p (by decide) (fun _ _ _ => ⟨_, _, rfl, by decide, by decide⟩) dX10_back_20 (fun v20 hv20 => ?_)
    refine lv_if_ne (tgt := 27) hx hb dX10_back_21 (by decide) (fun c21 => ?_) (fun c21 => ?_)
    · skip
      have f21 := i_ne c21
      exact (iv_no (show iv v20 1 (-1) from iv_nel hv20 (iv_c (x := (0 : Int32)) (k := 0) (by decide)) c21 (by decide)) (by decide)).elim
    · skip
      have f21 := i_eq c21
      refine lv_bipush (v := (-6)) hx hb dX10_back_24 (by decide) ?_
      have klm6 : (-6 : Int32).toInt = (-6) := by decide
      exact ret _ _ _ _ _ dX10_back_26 (⟨rfl, by have b0a := (hx1_9p).1; have b0b := (hx1_9p).2; have b1a := (hv1_9p).1; have b1b := (hv1_9p).2; have b2a := (hv6_9l).1; have b2b := (hv6_9l).2; have b3a := (hv20).1; have b3b := (hv20).2; omega⟩) hS
  · skip
    have kl0 : (0 : Int32).toInt = 0 := by decide
    have f9 := i_eq c9
    have hv6_9l : iv v6 0 0 := iv_eql hv6 (iv_c (x := (0 : Int32)) (k := 0) (by decide)) c9 (by decide)
    refine lv_bipush (v := (-2)) hx hb dX10_back_12 (by decide) ?_
    have klm2 : (-2 : Int32).toInt = (-2) := by decide
    exact ret _ _ _ _ _ dX10_back_14 (⟨rfl, by have b0a := (hx1).1; have b0b := (hx1).2; have b1a := (hv1).1; have b1b := (hv1).2; have b2a := (hv6_9l).1; have b2b := (hv6_9l).2; omega⟩) hS
set_option maxHeartbeats 4000000 in
set_option maxRecDepth 100000 in
theorem t_X10_end (l : Launch) {D : va_G} {c0 : Nat → ClassId} {Y : Nat → Option Nat} {H : Heap} (hT : TI D vwCl (tysOf c0) (RT1 false) Y H) {a0 : Nat} (ha0 : Y a0 = some 10) {x1 : Int32} (hx1 : iv x1 (-2147483648) 2147483647) : Met l yX10_end (wz yX10_end cX10_end 2 (some .int)) { frames := 1, cells := 0, slots := 0, locals := 25 } (TP D vwCl (tysOf c0) H [.ref a0, .int x1]) (TQi (fun x H' => TI D vwCl (tysOf c0) (RT1 false) Y H' ∧ ((x1.toInt = 0 ∧ x.toInt = 0) ∨ (¬ x1.toInt = 0 ∧ x.toInt = -1))) Y) 0 0 (pA Y) := by
  refine Met.ofW (cc := cX10_end) (maxL := 2) (ret := (some .int)) (by decide) rfl ?_
  intro p e s m args below meth c s₁ B hml hv
  obtain ⟨rfl, rfl, hK⟩ := hv
  have hx := B.exec
  have hb := B.bytes
  have hr := B.returns
  have hts : ∀ w ∈ wq, w.before _ s = true := fun w h => atoms_spec (ws := wz yX10_end cX10_end 2 (some .int)) B.pre w (List.mem_cons_of_mem _ h)
  have hown : s.vm.findClass RX10 = some m.cls := findClass_of_methodNamed B.named
  have hlocks := B.notSynchronized
  obtain ⟨R, hR⟩ : ∃ R : Room, R = ({ frames := 1, cells := 0, slots := 0, locals := 25 } : Room) := ⟨_, rfl⟩
  rw [show (headSpec (wz yX10_end cX10_end 2 (some .int)) { frames := 1, cells := 0, slots := 0, locals := 25 }).room = R from hR.symm]
  refine ti_mi hx hb hr hlocks (fun Q ret => ?_)
  have hl := lv_entry [.ref a0, .int x1] (n := 2) (Nat.le_of_ble_eq_true rfl)
  rw [lg_entry_eq]
  generalize (lg_sl [.ref a0, .int x1] ++ List.replicate (2 - (lg_sl [.ref a0, .int x1]).length) Slot.unset).toArray = ls at hl ⊢
  have hl : lv_has ls 2 [(0, .ref a0), (1, .int x1)] := hl
  refine ti_gen (P := fun H => TI D vwCl (tysOf c0) (RT1 false) Y H) (Y := Y) hT (fun H locs hT hS => ?_)
  refine lv_iload_n hx hb dX10_end_0 rfl (lv_at hl 1 rfl) ?_
  refine lv_i2l hx hb dX10_end_1 rfl ?_
  refine lv_topl (fun v1 e1 => ?_)
  have hv1 : jv v1 (-2147483648) 2147483647 := by rw [e1]; exact jv_i hx1
  have t1 : v1.toInt = x1.toInt := by rw [e1]; exact jv_e _
  refine lv_lconst (v := 0) hx hb dX10_end_2 (by decide) ?_
  have kj0 : (0 : Int64).toInt = 0 := by decide
  refine lv_aload_n hx hb dX10_end_3 rfl (lv_at hl 0 rfl) ?_
  refine ti_geti hx hb hts inlX10 hown hK hT ha0 rfl rfl 6 (by decide) (hts _ kw_172) (fun _ h9 => h9) rfl dX10_end_4 (fun v4 hv4 => ?_)
  refine lv_i2l hx hb dX10_end_7 rfl ?_
  refine lv_topl (fun v7 e7 => ?_)
  have hv7 : jv v7 0 0 := by rw [e7]; exact jv_i hv4
  have t7 : v7.toInt = v4.toInt := by rw [e7]; exact jv_e _
  refine ti_calli (va_runS (As := [.long v1, .long (0 : Int64), .long v7]) (rest := []) ⟨hx, hb, hml, hown, hts⟩ (t_X10_in l hT (jv_w hv1 (by decide)) (jv_w (jv_c (x := (0 : Int64)) (k := 0) (by decide)) (by decide)) (jv_w hv7 (by decide))) (cwS 3 hts (good_S kw_181 kw_182 kw_5 kw_183) rfl rfl rfl (by decide +kernel) ⟨by rw [hR]; decide, by rw [hR]; decide⟩) (ti_preS hK) rfl rfl hl.1 rfl (lv_room (Nat.le_of_ble_eq_true rfl)) dX10_end_8 ⟨Nat.zero_le _, Nat.zero_le _⟩) hS (fun _ h => h) (fun v8 H1 locs hB hS _ _ => ?_)
  obtain ⟨hH, hv8, hp8⟩ := hB
  rw [hH] at hS ⊢
  refine lv_if_ne (tgt := 16) hx hb dX10_end_11 (by decide) (fun c11 => ?_) (fun c11 => ?_)
  · skip
    have kl0 : (0 : Int32).toInt = 0 := by decide
    have f11 := i_ne c11
    have hv8_11l : iv v8 1 1 := iv_nel hv8 (iv_c (x := (0 : Int32)) (k := 0) (by decide)) c11 (by decide)
    have hv1_11p : jv v1 0 0 := by have b0a := (hv1).1; have b0b := (hv1).2; have b1a := ((jv_c (x := (0 : Int64)) (k := 0) (by decide))).1; have b1b := ((jv_c (x := (0 : Int64)) (k := 0) (by decide))).2; have b2a := (hv7).1; have b2b := (hv7).2; exact ⟨by omega, by omega⟩
    have hx1_11p : iv x1 0 0 := by have := t1; have b0a := (hv1_11p).1; have b0b := (hv1_11p).2; have b1a := (hx1).1; have b1b := (hx1).2; exact ⟨by omega, by omega⟩
    refine lv_aload_n hx hb dX10_end_16 rfl (lv_at hl 0 rfl) ?_
    refine lv_iload_n hx hb dX10_end_17 rfl (lv_at hl 1 rfl) ?_
    refine ti_put (ty := .int) hx hb hts inlX10 tyX10 tyX10_ok nmX10 hown hK hT hS ha0 rfl rfl 6 (by decide) (hts _ kw_172) (fun _ h9 => h9) rfl rfl (by decide +kernel) rfl rfl ⟨x1, rfl, iv_w hx1_11p (by decide)⟩ dX10_end_18 (fun H locs hT hS => ?_)
    refine lv_iload_n hx hb dX10_end_21 rfl (lv_at hl 1 rfl) ?_
    exact ret _ _ _ _ _ dX10_end_22 (⟨hT, by have b0a := (hx1_11p).1; have b0b := (hx1_11p).2; have b1a := (hv1_11p).1; have b1b := (hv1_11p).2; have b2a := (hv4).1; have b2b := (hv4).2; have b3a := (hv7).1; have b3b := (hv7).2; have b4a := (hv8_11l).1; have b4b := (hv8_11l).2; omega⟩) hS
  · skip
    have kl0 : (0 : Int32).toInt = 0 := by decide
    have f11 := i_eq c11
    have hv8_11l : iv v8 0 0 := iv_eql hv8 (iv_c (x := (0 : Int32)) (k := 0) (by decide)) c11 (by decide)
    refine lv_iconst (v := (-1)) hx hb dX10_end_14 (by decide) ?_
    have klm1 : (-1 : Int32).toInt = (-1) := by decide
    exact ret _ _ _ _ _ dX10_end_15 (⟨hT, by have b0a := (hx1).1; have b0b := (hx1).2; have b1a := (hv1).1; have b1b := (hv1).2; have b2a := (hv4).1; have b2b := (hv4).2; have b3a := (hv7).1; have b3b := (hv7).2; have b4a := (hv8_11l).1; have b4b := (hv8_11l).2; omega⟩) hS
set_option maxHeartbeats 4000000 in
set_option maxRecDepth 100000 in
theorem t_X10_fault (l : Launch) {D : va_G} {c0 : Nat → ClassId} {Y : Nat → Option Nat} {H : Heap} (hT : TI D vwCl (tysOf c0) (RT1 false) Y H) {a0 : Nat} (ha0 : Y a0 = some 10) {x1 : Int32} (hx1 : iv x1 (-2147483648) 2147483647) : Met l yX10_fault (wz yX10_fault cX10_fault 2 (some .int)) { frames := 0, cells := 0, slots := 0, locals := 0 } (TP D vwCl (tysOf c0) H [.ref a0, .int x1]) (TQi (fun x H' => H' = H ∧ ((x1.toInt = 0 ∧ x.toInt = 0) ∨ (¬ x1.toInt = 0 ∧ x.toInt = -1))) Y) 0 0 (pA Y) := by
  refine Met.ofW (cc := cX10_fault) (maxL := 2) (ret := (some .int)) (by decide) rfl ?_
  intro p e s m args below meth c s₁ B hml hv
  obtain ⟨rfl, rfl, hK⟩ := hv
  have hx := B.exec
  have hb := B.bytes
  have hr := B.returns
  have hts : ∀ w ∈ wq, w.before _ s = true := fun w h => atoms_spec (ws := wz yX10_fault cX10_fault 2 (some .int)) B.pre w (List.mem_cons_of_mem _ h)
  have hown : s.vm.findClass RX10 = some m.cls := findClass_of_methodNamed B.named
  have hlocks := B.notSynchronized
  obtain ⟨R, hR⟩ : ∃ R : Room, R = ({ frames := 0, cells := 0, slots := 0, locals := 0 } : Room) := ⟨_, rfl⟩
  rw [show (headSpec (wz yX10_fault cX10_fault 2 (some .int)) { frames := 0, cells := 0, slots := 0, locals := 0 }).room = R from hR.symm]
  refine ti_mi hx hb hr hlocks (fun Q ret => ?_)
  have hl := lv_entry [.ref a0, .int x1] (n := 2) (Nat.le_of_ble_eq_true rfl)
  rw [lg_entry_eq]
  generalize (lg_sl [.ref a0, .int x1] ++ List.replicate (2 - (lg_sl [.ref a0, .int x1]).length) Slot.unset).toArray = ls at hl ⊢
  have hl : lv_has ls 2 [(0, .ref a0), (1, .int x1)] := hl
  have hS : va_S (pA Y) s.heap s.heap [] := va_S.rf
  refine lv_iload_n hx hb dX10_fault_0 rfl (lv_at hl 1 rfl) ?_
  refine lv_if_ne (tgt := 11) hx hb dX10_fault_1 (by decide) (fun c1 => ?_) (fun c1 => ?_)
  · skip
    have kl0 : (0 : Int32).toInt = 0 := by decide
    have f1 := i_ne c1
    refine lv_iload_n hx hb dX10_fault_11 rfl (lv_at hl 1 rfl) ?_
    refine lv_iconst (v := 1) hx hb dX10_fault_12 (by decide) ?_
    refine lv_icmp_ne (tgt := 23) hx hb dX10_fault_13 (by decide) (fun c13 => ?_) (fun c13 => ?_)
    · skip
      have kl1 : (1 : Int32).toInt = 1 := by decide
      have f13 := i_ne c13
      refine lv_iconst (v := (-1)) hx hb dX10_fault_23 (by decide) ?_
      have klm1 : (-1 : Int32).toInt = (-1) := by decide
      exact ret _ _ _ _ _ dX10_fault_24 (⟨rfl, by have b0a := (hx1).1; have b0b := (hx1).2; omega⟩) hS
    · skip
      have kl1 : (1 : Int32).toInt = 1 := by decide
      have f13 := i_eq c13
      have hx1_13l : iv x1 1 1 := iv_eql hx1 (iv_c (x := (1 : Int32)) (k := 1) (by decide)) c13 (by decide)
      refine lv_aload_n hx hb dX10_fault_16 rfl (lv_at hl 0 rfl) ?_
      refine ti_geti hx hb hts inlX10 hown hK hT ha0 rfl rfl 14 (by decide) (hts _ kw_136) (fun _ h9 => h9) rfl dX10_fault_17 (fun v17 hv17 => ?_)
      refine lv_goto (tgt := 24) hx hb dX10_fault_20 (by decide) ?_
      exact ret _ _ _ _ _ dX10_fault_24 (⟨rfl, by have b0a := (hx1_13l).1; have b0b := (hx1_13l).2; have b1a := (hv17).1; have b1b := (hv17).2; omega⟩) hS
  · skip
    have kl0 : (0 : Int32).toInt = 0 := by decide
    have f1 := i_eq c1
    have hx1_1l : iv x1 0 0 := iv_eql hx1 (iv_c (x := (0 : Int32)) (k := 0) (by decide)) c1 (by decide)
    refine lv_aload_n hx hb dX10_fault_4 rfl (lv_at hl 0 rfl) ?_
    refine ti_geti hx hb hts inlX10 hown hK hT ha0 rfl rfl 13 (by decide) (hts _ kw_380) (fun _ h9 => h9) rfl dX10_fault_5 (fun v5 hv5 => ?_)
    refine lv_goto (tgt := 24) hx hb dX10_fault_8 (by decide) ?_
    exact ret _ _ _ _ _ dX10_fault_24 (⟨rfl, by have b0a := (hx1_1l).1; have b0b := (hx1_1l).2; have b1a := (hv5).1; have b1b := (hv5).2; omega⟩) hS
set_option maxHeartbeats 4000000 in
set_option maxRecDepth 100000 in
theorem t_X10_person (l : Launch) {D : va_G} {c0 : Nat → ClassId} {Y : Nat → Option Nat} {H : Heap} (hT : TI D vwCl (tysOf c0) (RT1 false) Y H) {a0 : Nat} (ha0 : Y a0 = some 10) {x1 : Int32} (hx1 : iv x1 (-2147483648) 2147483647) {x2 : Int32} (hx2 : iv x2 (-2147483648) 2147483647) : Met l yX10_person (wz yX10_person cX10_person 3 (some .int)) { frames := 2, cells := 0, slots := 0, locals := 46 } (TP D vwCl (tysOf c0) H [.ref a0, .int x1, .int x2]) (TQi (fun x H' => H' = H ∧ iv x (-2) (-2)) Y) 0 0 (pA Y) := by
  refine Met.ofW (cc := cX10_person) (maxL := 3) (ret := (some .int)) (by decide) rfl ?_
  intro p e s m args below meth c s₁ B hml hv
  obtain ⟨rfl, rfl, hK⟩ := hv
  have hx := B.exec
  have hb := B.bytes
  have hr := B.returns
  have hts : ∀ w ∈ wq, w.before _ s = true := fun w h => atoms_spec (ws := wz yX10_person cX10_person 3 (some .int)) B.pre w (List.mem_cons_of_mem _ h)
  have hown : s.vm.findClass RX10 = some m.cls := findClass_of_methodNamed B.named
  have hlocks := B.notSynchronized
  obtain ⟨R, hR⟩ : ∃ R : Room, R = ({ frames := 2, cells := 0, slots := 0, locals := 46 } : Room) := ⟨_, rfl⟩
  rw [show (headSpec (wz yX10_person cX10_person 3 (some .int)) { frames := 2, cells := 0, slots := 0, locals := 46 }).room = R from hR.symm]
  refine ti_mi hx hb hr hlocks (fun Q ret => ?_)
  have hl := lv_entry [.ref a0, .int x1, .int x2] (n := 3) (Nat.le_of_ble_eq_true rfl)
  rw [lg_entry_eq]
  generalize (lg_sl [.ref a0, .int x1, .int x2] ++ List.replicate (3 - (lg_sl [.ref a0, .int x1, .int x2]).length) Slot.unset).toArray = ls at hl ⊢
  have hl : lv_has ls 3 [(0, .ref a0), (1, .int x1), (2, .int x2)] := hl
  have hS : va_S (pA Y) s.heap s.heap [] := va_S.rf
  refine lv_aload_n hx hb dX10_person_0 rfl (lv_at hl 0 rfl) ?_
  refine lv_iload_n hx hb dX10_person_1 rfl (lv_at hl 1 rfl) ?_
  refine ti_calli (va_runV (As := [.int x1]) (rest := []) ⟨hx, hb, hml, hown, hts⟩ (t_X10_isPerson l hT ha0 (iv_w hx1 (by decide))) (cwV 1 hts (good_V kw_486 kw_487 kw_488 kw_5 kw_489) rfl rfl rfl (by decide +kernel) ⟨by rw [hR]; decide, by rw [hR]; decide⟩) (ti_preV hK hT ha0 rfl rfl) rfl rfl hl.1 rfl (lv_room (Nat.le_of_ble_eq_true rfl)) dX10_person_2 ⟨Nat.zero_le _, Nat.zero_le _⟩) hS (fun _ h => h) (fun v2 H1 locs hB hS _ _ => ?_)
  obtain ⟨hH, hv2⟩ := hB
  rw [hH] at hS ⊢
  refine lv_if_eq (tgt := 20) hx hb dX10_person_5 (by decide) (fun c5 => ?_) (fun c5 => ?_)
  · skip
    have kl0 : (0 : Int32).toInt = 0 := by decide
    have f5 := i_eq c5
    refine lv_bipush (v := (-2)) hx hb dX10_person_20 (by decide) ?_
    exact ret _ _ _ _ _ dX10_person_22 (⟨rfl, iv_w (iv_c (x := (-2 : Int32)) (k := (-2)) (by decide)) (by decide)⟩) hS
  · skip
    have kl0 : (0 : Int32).toInt = 0 := by decide
    have f5 := i_ne c5
    exact (iv_no (show iv v2 1 (-1) from iv_nel hv2 (iv_c (x := (0 : Int32)) (k := 0) (by decide)) c5 (by decide)) (by decide)).elim
set_option maxHeartbeats 4000000 in
set_option maxRecDepth 100000 in
theorem t_X10_have (l : Launch) {D : va_G} {c0 : Nat → ClassId} {Y : Nat → Option Nat} {H : Heap} (hT : TI D vwCl (tysOf c0) (RT1 false) Y H) {a0 : Nat} (ha0 : Y a0 = some 10) {x1 : Int32} (hx1 : iv x1 (-2147483648) 2147483647) {x2 : Int32} (hx2 : iv x2 (-2147483648) 2147483647) : Met l yX10_have (wz yX10_have cX10_have 4 (some .int)) { frames := 2, cells := 0, slots := 0, locals := 46 } (TP D vwCl (tysOf c0) H [.ref a0, .int x1, .int x2]) (TQi (fun x H' => H' = H ∧ iv x (-2) (-2)) Y) 0 0 (pA Y) := by
  refine Met.ofW (cc := cX10_have) (maxL := 4) (ret := (some .int)) (by decide) rfl ?_
  intro p e s m args below meth c s₁ B hml hv
  obtain ⟨rfl, rfl, hK⟩ := hv
  have hx := B.exec
  have hb := B.bytes
  have hr := B.returns
  have hts : ∀ w ∈ wq, w.before _ s = true := fun w h => atoms_spec (ws := wz yX10_have cX10_have 4 (some .int)) B.pre w (List.mem_cons_of_mem _ h)
  have hown : s.vm.findClass RX10 = some m.cls := findClass_of_methodNamed B.named
  have hlocks := B.notSynchronized
  obtain ⟨R, hR⟩ : ∃ R : Room, R = ({ frames := 2, cells := 0, slots := 0, locals := 46 } : Room) := ⟨_, rfl⟩
  rw [show (headSpec (wz yX10_have cX10_have 4 (some .int)) { frames := 2, cells := 0, slots := 0, locals := 46 }).room = R from hR.symm]
  refine ti_mi hx hb hr hlocks (fun Q ret => ?_)
  have hl := lv_entry [.ref a0, .int x1, .int x2] (n := 4) (Nat.le_of_ble_eq_true rfl)
  rw [lg_entry_eq]
  generalize (lg_sl [.ref a0, .int x1, .int x2] ++ List.replicate (4 - (lg_sl [.ref a0, .int x1, .int x2]).length) Slot.unset).toArray = ls at hl ⊢
  have hl : lv_has ls 4 [(0, .ref a0), (1, .int x1), (2, .int x2)] := hl
  have hS : va_S (pA Y) s.heap s.heap [] := va_S.rf
  refine lv_aload_n hx hb dX10_have_0 rfl (lv_at hl 0 rfl) ?_
  refine lv_iload_n hx hb dX10_have_1 rfl (lv_at hl 1 rfl) ?_
  refine ti_calli (va_runV (As := [.int x1]) (rest := []) ⟨hx, hb, hml, hown, hts⟩ (t_X10_isPerson l hT ha0 (iv_w hx1 (by decide))) (cwV 1 hts (good_V kw_486 kw_487 kw_488 kw_5 kw_489) rfl rfl rfl (by decide +kernel) ⟨by rw [hR]; decide, by rw [hR]; decide⟩) (ti_preV hK hT ha0 rfl rfl) rfl rfl hl.1 rfl (lv_room (Nat.le_of_ble_eq_true rfl)) dX10_have_2 ⟨Nat.zero_le _, Nat.zero_le _⟩) hS (fun _ h => h) (fun v2 H1 locs hB hS _ _ => ?_)
  obtain ⟨hH, hv2⟩ := hB
  rw [hH] at hS ⊢
  refine lv_if_eq (tgt := 24) hx hb dX10_have_5 (by decide) (fun c5 => ?_) (fun c5 => ?_)
  · skip
    have kl0 : (0 : Int32).toInt = 0 := by decide
    have f5 := i_eq c5
    refine lv_bipush (v := (-2)) hx hb dX10_have_24 (by decide) ?_
    exact ret _ _ _ _ _ dX10_have_26 (⟨rfl, iv_w (iv_c (x := (-2 : Int32)) (k := (-2)) (by decide)) (by decide)⟩) hS
  · skip
    have kl0 : (0 : Int32).toInt = 0 := by decide
    have f5 := i_ne c5
    exact (iv_no (show iv v2 1 (-1) from iv_nel hv2 (iv_c (x := (0 : Int32)) (k := 0) (by decide)) c5 (by decide)) (by decide)).elim
set_option maxHeartbeats 4000000 in
set_option maxRecDepth 100000 in
theorem t_X10_hide (l : Launch) {D : va_G} {c0 : Nat → ClassId} {Y : Nat → Option Nat} {H : Heap} (hT : TI D vwCl (tysOf c0) (RT1 false) Y H) {a0 : Nat} (ha0 : Y a0 = some 10) {x1 : Int32} (hx1 : iv x1 (-2147483648) 2147483647) {x2 : Int32} (hx2 : iv x2 (-2147483648) 2147483647) : Met l yX10_hide (wz yX10_hide cX10_hide 3 (some .int)) { frames := 2, cells := 0, slots := 0, locals := 46 } (TP D vwCl (tysOf c0) H [.ref a0, .int x1, .int x2]) (TQi (fun x H' => H' = H ∧ iv x (-2) (-2)) Y) 0 0 (pA Y) := by
  refine Met.ofW (cc := cX10_hide) (maxL := 3) (ret := (some .int)) (by decide) rfl ?_
  intro p e s m args below meth c s₁ B hml hv
  obtain ⟨rfl, rfl, hK⟩ := hv
  have hx := B.exec
  have hb := B.bytes
  have hr := B.returns
  have hts : ∀ w ∈ wq, w.before _ s = true := fun w h => atoms_spec (ws := wz yX10_hide cX10_hide 3 (some .int)) B.pre w (List.mem_cons_of_mem _ h)
  have hown : s.vm.findClass RX10 = some m.cls := findClass_of_methodNamed B.named
  have hlocks := B.notSynchronized
  obtain ⟨R, hR⟩ : ∃ R : Room, R = ({ frames := 2, cells := 0, slots := 0, locals := 46 } : Room) := ⟨_, rfl⟩
  rw [show (headSpec (wz yX10_hide cX10_hide 3 (some .int)) { frames := 2, cells := 0, slots := 0, locals := 46 }).room = R from hR.symm]
  refine ti_mi hx hb hr hlocks (fun Q ret => ?_)
  have hl := lv_entry [.ref a0, .int x1, .int x2] (n := 3) (Nat.le_of_ble_eq_true rfl)
  rw [lg_entry_eq]
  generalize (lg_sl [.ref a0, .int x1, .int x2] ++ List.replicate (3 - (lg_sl [.ref a0, .int x1, .int x2]).length) Slot.unset).toArray = ls at hl ⊢
  have hl : lv_has ls 3 [(0, .ref a0), (1, .int x1), (2, .int x2)] := hl
  have hS : va_S (pA Y) s.heap s.heap [] := va_S.rf
  refine lv_aload_n hx hb dX10_hide_0 rfl (lv_at hl 0 rfl) ?_
  refine lv_iload_n hx hb dX10_hide_1 rfl (lv_at hl 1 rfl) ?_
  refine ti_calli (va_runV (As := [.int x1]) (rest := []) ⟨hx, hb, hml, hown, hts⟩ (t_X10_isPerson l hT ha0 (iv_w hx1 (by decide))) (cwV 1 hts (good_V kw_486 kw_487 kw_488 kw_5 kw_489) rfl rfl rfl (by decide +kernel) ⟨by rw [hR]; decide, by rw [hR]; decide⟩) (ti_preV hK hT ha0 rfl rfl) rfl rfl hl.1 rfl (lv_room (Nat.le_of_ble_eq_true rfl)) dX10_hide_2 ⟨Nat.zero_le _, Nat.zero_le _⟩) hS (fun _ h => h) (fun v2 H1 locs hB hS _ _ => ?_)
  obtain ⟨hH, hv2⟩ := hB
  rw [hH] at hS ⊢
  refine lv_if_eq (tgt := 20) hx hb dX10_hide_5 (by decide) (fun c5 => ?_) (fun c5 => ?_)
  · skip
    have kl0 : (0 : Int32).toInt = 0 := by decide
    have f5 := i_eq c5
    refine lv_bipush (v := (-2)) hx hb dX10_hide_20 (by decide) ?_
    exact ret _ _ _ _ _ dX10_hide_22 (⟨rfl, iv_w (iv_c (x := (-2 : Int32)) (k := (-2)) (by decide)) (by decide)⟩) hS
  · skip
    have kl0 : (0 : Int32).toInt = 0 := by decide
    have f5 := i_ne c5
    exact (iv_no (show iv v2 1 (-1) from iv_nel hv2 (iv_c (x := (0 : Int32)) (k := 0) (by decide)) c5 (by decide)) (by decide)).elim
set_option maxHeartbeats 4000000 in
set_option maxRecDepth 100000 in
theorem t_X10_seen (l : Launch) {D : va_G} {c0 : Nat → ClassId} {Y : Nat → Option Nat} {H : Heap} (hT : TI D vwCl (tysOf c0) (RT1 false) Y H) {a0 : Nat} (ha0 : Y a0 = some 10) {x1 : Int32} (hx1 : iv x1 (-2147483648) 2147483647) {x2 : Int32} (hx2 : iv x2 (-2147483648) 2147483647) : Met l yX10_seen (wz yX10_seen cX10_seen 3 (some .int)) { frames := 3, cells := 0, slots := 0, locals := 68 } (TP D vwCl (tysOf c0) H [.ref a0, .int x1, .int x2]) (TQi (fun x H' => H' = H ∧ iv x (-2) (-2)) Y) 0 0 (pA Y) := by
  refine Met.ofW (cc := cX10_seen) (maxL := 3) (ret := (some .int)) (by decide) rfl ?_
  intro p e s m args below meth c s₁ B hml hv
  obtain ⟨rfl, rfl, hK⟩ := hv
  have hx := B.exec
  have hb := B.bytes
  have hr := B.returns
  have hts : ∀ w ∈ wq, w.before _ s = true := fun w h => atoms_spec (ws := wz yX10_seen cX10_seen 3 (some .int)) B.pre w (List.mem_cons_of_mem _ h)
  have hown : s.vm.findClass RX10 = some m.cls := findClass_of_methodNamed B.named
  have hlocks := B.notSynchronized
  obtain ⟨R, hR⟩ : ∃ R : Room, R = ({ frames := 3, cells := 0, slots := 0, locals := 68 } : Room) := ⟨_, rfl⟩
  rw [show (headSpec (wz yX10_seen cX10_seen 3 (some .int)) { frames := 3, cells := 0, slots := 0, locals := 68 }).room = R from hR.symm]
  refine ti_mi hx hb hr hlocks (fun Q ret => ?_)
  have hl := lv_entry [.ref a0, .int x1, .int x2] (n := 3) (Nat.le_of_ble_eq_true rfl)
  rw [lg_entry_eq]
  generalize (lg_sl [.ref a0, .int x1, .int x2] ++ List.replicate (3 - (lg_sl [.ref a0, .int x1, .int x2]).length) Slot.unset).toArray = ls at hl ⊢
  have hl : lv_has ls 3 [(0, .ref a0), (1, .int x1), (2, .int x2)] := hl
  have hS : va_S (pA Y) s.heap s.heap [] := va_S.rf
  refine lv_aload_n hx hb dX10_seen_0 rfl (lv_at hl 0 rfl) ?_
  refine lv_iload_n hx hb dX10_seen_1 rfl (lv_at hl 1 rfl) ?_
  refine lv_iload_n hx hb dX10_seen_2 rfl (lv_at hl 2 rfl) ?_
  refine ti_calli (va_runV (As := [.int x1, .int x2]) (rest := []) ⟨hx, hb, hml, hown, hts⟩ (t_X10_areTwo l hT ha0 (iv_w hx1 (by decide)) (iv_w hx2 (by decide))) (cwV 2 hts (good_V kw_545 kw_546 kw_547 kw_5 kw_548) rfl rfl rfl (by decide +kernel) ⟨by rw [hR]; decide, by rw [hR]; decide⟩) (ti_preV hK hT ha0 rfl rfl) rfl rfl hl.1 rfl (lv_room (Nat.le_of_ble_eq_true rfl)) dX10_seen_3 ⟨Nat.zero_le _, Nat.zero_le _⟩) hS (fun _ h => h) (fun v3 H1 locs hB hS _ _ => ?_)
  obtain ⟨hH, hv3⟩ := hB
  rw [hH] at hS ⊢
  refine lv_if_eq (tgt := 18) hx hb dX10_seen_6 (by decide) (fun c6 => ?_) (fun c6 => ?_)
  · skip
    have kl0 : (0 : Int32).toInt = 0 := by decide
    have f6 := i_eq c6
    refine lv_bipush (v := (-2)) hx hb dX10_seen_18 (by decide) ?_
    exact ret _ _ _ _ _ dX10_seen_20 (⟨rfl, iv_w (iv_c (x := (-2 : Int32)) (k := (-2)) (by decide)) (by decide)⟩) hS
  · skip
    have kl0 : (0 : Int32).toInt = 0 := by decide
    have f6 := i_ne c6
    exact (iv_no (show iv v3 1 (-1) from iv_nel hv3 (iv_c (x := (0 : Int32)) (k := 0) (by decide)) c6 (by decide)) (by decide)).elim
set_option maxHeartbeats 4000000 in
set_option maxRecDepth 100000 in
theorem t_X10_sight (l : Launch) {D : va_G} {c0 : Nat → ClassId} {Y : Nat → Option Nat} {H : Heap} (hT : TI D vwCl (tysOf c0) (RT1 false) Y H) {a0 : Nat} (ha0 : Y a0 = some 10) {x1 : Int32} (hx1 : iv x1 (-2147483648) 2147483647) {x2 : Int32} (hx2 : iv x2 (-2147483648) 2147483647) {x3 : Int32} (hx3 : iv x3 (-2147483648) 2147483647) : Met l yX10_sight (wz yX10_sight cX10_sight 5 (some .int)) { frames := 3, cells := 0, slots := 0, locals := 68 } (TP D vwCl (tysOf c0) H [.ref a0, .int x1, .int x2, .int x3]) (TQi (fun x H' => H' = H ∧ iv x (-2) (-2)) Y) 0 0 (pA Y) := by
  refine Met.ofW (cc := cX10_sight) (maxL := 5) (ret := (some .int)) (by decide) rfl ?_
  intro p e s m args below meth c s₁ B hml hv
  obtain ⟨rfl, rfl, hK⟩ := hv
  have hx := B.exec
  have hb := B.bytes
  have hr := B.returns
  have hts : ∀ w ∈ wq, w.before _ s = true := fun w h => atoms_spec (ws := wz yX10_sight cX10_sight 5 (some .int)) B.pre w (List.mem_cons_of_mem _ h)
  have hown : s.vm.findClass RX10 = some m.cls := findClass_of_methodNamed B.named
  have hlocks := B.notSynchronized
  obtain ⟨R, hR⟩ : ∃ R : Room, R = ({ frames := 3, cells := 0, slots := 0, locals := 68 } : Room) := ⟨_, rfl⟩
  rw [show (headSpec (wz yX10_sight cX10_sight 5 (some .int)) { frames := 3, cells := 0, slots := 0, locals := 68 }).room = R from hR.symm]
  refine ti_mi hx hb hr hlocks (fun Q ret => ?_)
  have hl := lv_entry [.ref a0, .int x1, .int x2, .int x3] (n := 5) (Nat.le_of_ble_eq_true rfl)
  rw [lg_entry_eq]
  generalize (lg_sl [.ref a0, .int x1, .int x2, .int x3] ++ List.replicate (5 - (lg_sl [.ref a0, .int x1, .int x2, .int x3]).length) Slot.unset).toArray = ls at hl ⊢
  have hl : lv_has ls 5 [(0, .ref a0), (1, .int x1), (2, .int x2), (3, .int x3)] := hl
  have hS : va_S (pA Y) s.heap s.heap [] := va_S.rf
  refine lv_aload_n hx hb dX10_sight_0 rfl (lv_at hl 0 rfl) ?_
  refine lv_iload_n hx hb dX10_sight_1 rfl (lv_at hl 1 rfl) ?_
  refine lv_iload_n hx hb dX10_sight_2 rfl (lv_at hl 2 rfl) ?_
  refine ti_calli (va_runV (As := [.int x1, .int x2]) (rest := []) ⟨hx, hb, hml, hown, hts⟩ (t_X10_areTwo l hT ha0 (iv_w hx1 (by decide)) (iv_w hx2 (by decide))) (cwV 2 hts (good_V kw_545 kw_546 kw_547 kw_5 kw_548) rfl rfl rfl (by decide +kernel) ⟨by rw [hR]; decide, by rw [hR]; decide⟩) (ti_preV hK hT ha0 rfl rfl) rfl rfl hl.1 rfl (lv_room (Nat.le_of_ble_eq_true rfl)) dX10_sight_3 ⟨Nat.zero_le _, Nat.zero_le _⟩) hS (fun _ h => h) (fun v3 H1 locs hB hS _ _ => ?_)
  obtain ⟨hH, hv3⟩ := hB
  rw [hH] at hS ⊢
  refine lv_if_eq (tgt := 21) hx hb dX10_sight_6 (by decide) (fun c6 => ?_) (fun c6 => ?_)
  · skip
    have kl0 : (0 : Int32).toInt = 0 := by decide
    have f6 := i_eq c6
    refine lv_bipush (v := (-2)) hx hb dX10_sight_21 (by decide) ?_
    exact ret _ _ _ _ _ dX10_sight_23 (⟨rfl, iv_w (iv_c (x := (-2 : Int32)) (k := (-2)) (by decide)) (by decide)⟩) hS
  · skip
    have kl0 : (0 : Int32).toInt = 0 := by decide
    have f6 := i_ne c6
    exact (iv_no (show iv v3 1 (-1) from iv_nel hv3 (iv_c (x := (0 : Int32)) (k := 0) (by decide)) c6 (by decide)) (by decide)).elim
set_option maxHeartbeats 4000000 in
set_option maxRecDepth 100000 in
theorem t_X10_tops (l : Launch) {D : va_G} {c0 : Nat → ClassId} {Y : Nat → Option Nat} {H : Heap} (hT : TI D vwCl (tysOf c0) (RT1 false) Y H) {a0 : Nat} (ha0 : Y a0 = some 10) : Met l yX10_tops (wz yX10_tops cX10_tops 1 (some .int)) { frames := 1, cells := 0, slots := 0, locals := 20 } (TP D vwCl (tysOf c0) H [.ref a0]) (TQi (fun x H' => H' = H ∧ iv x (-2) (-2)) Y) 0 0 (pA Y) := by
  refine Met.ofW (cc := cX10_tops) (maxL := 1) (ret := (some .int)) (by decide) rfl ?_
  intro p e s m args below meth c s₁ B hml hv
  obtain ⟨rfl, rfl, hK⟩ := hv
  have hx := B.exec
  have hb := B.bytes
  have hr := B.returns
  have hts : ∀ w ∈ wq, w.before _ s = true := fun w h => atoms_spec (ws := wz yX10_tops cX10_tops 1 (some .int)) B.pre w (List.mem_cons_of_mem _ h)
  have hown : s.vm.findClass RX10 = some m.cls := findClass_of_methodNamed B.named
  have hlocks := B.notSynchronized
  obtain ⟨R, hR⟩ : ∃ R : Room, R = ({ frames := 1, cells := 0, slots := 0, locals := 20 } : Room) := ⟨_, rfl⟩
  rw [show (headSpec (wz yX10_tops cX10_tops 1 (some .int)) { frames := 1, cells := 0, slots := 0, locals := 20 }).room = R from hR.symm]
  refine ti_mi hx hb hr hlocks (fun Q ret => ?_)
  have hl := lv_entry [.ref a0] (n := 1) (Nat.le_of_ble_eq_true rfl)
  rw [lg_entry_eq]
  generalize (lg_sl [.ref a0] ++ List.replicate (1 - (lg_sl [.ref a0]).length) Slot.unset).toArray = ls at hl ⊢
  have hl : lv_has ls 1 [(0, .ref a0)] := hl
  have hS : va_S (pA Y) s.heap s.heap [] := va_S.rf
  refine lv_aload_n hx hb dX10_tops_0 rfl (lv_at hl 0 rfl) ?_
  refine ti_calli (va_runV (As := []) (rest := []) ⟨hx, hb, hml, hown, hts⟩ (t_X10_people l hT ha0) (cwV 0 hts (good_V kw_605 kw_606 kw_607 kw_5 kw_608) rfl rfl rfl (by decide +kernel) ⟨by rw [hR]; decide, by rw [hR]; decide⟩) (ti_preV hK hT ha0 rfl rfl) rfl rfl hl.1 rfl (lv_room (Nat.le_of_ble_eq_true rfl)) dX10_tops_1 ⟨Nat.zero_le _, Nat.zero_le _⟩) hS (fun _ h => h) (fun v1 H1 locs hB hS _ _ => ?_)
  obtain ⟨hH, hv1⟩ := hB
  rw [hH] at hS ⊢
  refine lv_if_le (tgt := 14) hx hb dX10_tops_4 (by decide) (fun c4 => ?_) (fun c4 => ?_)
  · skip
    have kl0 : (0 : Int32).toInt = 0 := by decide
    have f4 := i_le c4
    refine lv_bipush (v := (-2)) hx hb dX10_tops_14 (by decide) ?_
    exact ret _ _ _ _ _ dX10_tops_16 (⟨rfl, iv_w (iv_c (x := (-2 : Int32)) (k := (-2)) (by decide)) (by decide)⟩) hS
  · skip
    have kl0 : (0 : Int32).toInt = 0 := by decide
    have f4 := i_nle c4
    exact (iv_no (show iv (0 : Int32) 0 (-1) from iv_ltl (iv_c (x := (0 : Int32)) (k := 0) (by decide)) hv1 (Int32.not_le.mp c4) (by decide)) (by decide)).elim
set_option maxHeartbeats 4000000 in
set_option maxRecDepth 100000 in
theorem t_X10_next (l : Launch) {D : va_G} {c0 : Nat → ClassId} {Y : Nat → Option Nat} {H : Heap} (hT : TI D vwCl (tysOf c0) (RT1 false) Y H) {a0 : Nat} (ha0 : Y a0 = some 10) : Met l yX10_next (wz yX10_next cX10_next 1 (some .int)) { frames := 1, cells := 0, slots := 0, locals := 20 } (TP D vwCl (tysOf c0) H [.ref a0]) (TQi (fun x H' => H' = H ∧ iv x (-2) (-2)) Y) 0 0 (pA Y) := by
  refine Met.ofW (cc := cX10_next) (maxL := 1) (ret := (some .int)) (by decide) rfl ?_
  intro p e s m args below meth c s₁ B hml hv
  obtain ⟨rfl, rfl, hK⟩ := hv
  have hx := B.exec
  have hb := B.bytes
  have hr := B.returns
  have hts : ∀ w ∈ wq, w.before _ s = true := fun w h => atoms_spec (ws := wz yX10_next cX10_next 1 (some .int)) B.pre w (List.mem_cons_of_mem _ h)
  have hown : s.vm.findClass RX10 = some m.cls := findClass_of_methodNamed B.named
  have hlocks := B.notSynchronized
  obtain ⟨R, hR⟩ : ∃ R : Room, R = ({ frames := 1, cells := 0, slots := 0, locals := 20 } : Room) := ⟨_, rfl⟩
  rw [show (headSpec (wz yX10_next cX10_next 1 (some .int)) { frames := 1, cells := 0, slots := 0, locals := 20 }).room = R from hR.symm]
  refine ti_mi hx hb hr hlocks (fun Q ret => ?_)
  have hl := lv_entry [.ref a0] (n := 1) (Nat.le_of_ble_eq_true rfl)
  rw [lg_entry_eq]
  generalize (lg_sl [.ref a0] ++ List.replicate (1 - (lg_sl [.ref a0]).length) Slot.unset).toArray = ls at hl ⊢
  have hl : lv_has ls 1 [(0, .ref a0)] := hl
  have hS : va_S (pA Y) s.heap s.heap [] := va_S.rf
  refine lv_aload_n hx hb dX10_next_0 rfl (lv_at hl 0 rfl) ?_
  refine ti_calli (va_runV (As := []) (rest := []) ⟨hx, hb, hml, hown, hts⟩ (t_X10_people l hT ha0) (cwV 0 hts (good_V kw_605 kw_606 kw_607 kw_5 kw_608) rfl rfl rfl (by decide +kernel) ⟨by rw [hR]; decide, by rw [hR]; decide⟩) (ti_preV hK hT ha0 rfl rfl) rfl rfl hl.1 rfl (lv_room (Nat.le_of_ble_eq_true rfl)) dX10_next_1 ⟨Nat.zero_le _, Nat.zero_le _⟩) hS (fun _ h => h) (fun v1 H1 locs hB hS _ _ => ?_)
  obtain ⟨hH, hv1⟩ := hB
  rw [hH] at hS ⊢
  refine lv_if_le (tgt := 14) hx hb dX10_next_4 (by decide) (fun c4 => ?_) (fun c4 => ?_)
  · skip
    have kl0 : (0 : Int32).toInt = 0 := by decide
    have f4 := i_le c4
    refine lv_bipush (v := (-2)) hx hb dX10_next_14 (by decide) ?_
    exact ret _ _ _ _ _ dX10_next_16 (⟨rfl, iv_w (iv_c (x := (-2 : Int32)) (k := (-2)) (by decide)) (by decide)⟩) hS
  · skip
    have kl0 : (0 : Int32).toInt = 0 := by decide
    have f4 := i_nle c4
    exact (iv_no (show iv (0 : Int32) 0 (-1) from iv_ltl (iv_c (x := (0 : Int32)) (k := 0) (by decide)) hv1 (Int32.not_le.mp c4) (by decide)) (by decide)).elim
set_option maxHeartbeats 4000000 in
set_option maxRecDepth 100000 in
theorem t_X10_loses (l : Launch) {D : va_G} {c0 : Nat → ClassId} {Y : Nat → Option Nat} {H : Heap} (hT : TI D vwCl (tysOf c0) (RT1 false) Y H) {a0 : Nat} (ha0 : Y a0 = some 10) {x1 : Int32} (hx1 : iv x1 (-2147483648) 2147483647) : Met l yX10_loses (wz yX10_loses cX10_loses 2 (some .int)) { frames := 2, cells := 0, slots := 0, locals := 46 } (TP D vwCl (tysOf c0) H [.ref a0, .int x1]) (TQi (fun x H' => H' = H ∧ iv x (-2) (-2)) Y) 0 0 (pA Y) := by
  refine Met.ofW (cc := cX10_loses) (maxL := 2) (ret := (some .int)) (by decide) rfl ?_
  intro p e s m args below meth c s₁ B hml hv
  obtain ⟨rfl, rfl, hK⟩ := hv
  have hx := B.exec
  have hb := B.bytes
  have hr := B.returns
  have hts : ∀ w ∈ wq, w.before _ s = true := fun w h => atoms_spec (ws := wz yX10_loses cX10_loses 2 (some .int)) B.pre w (List.mem_cons_of_mem _ h)
  have hown : s.vm.findClass RX10 = some m.cls := findClass_of_methodNamed B.named
  have hlocks := B.notSynchronized
  obtain ⟨R, hR⟩ : ∃ R : Room, R = ({ frames := 2, cells := 0, slots := 0, locals := 46 } : Room) := ⟨_, rfl⟩
  rw [show (headSpec (wz yX10_loses cX10_loses 2 (some .int)) { frames := 2, cells := 0, slots := 0, locals := 46 }).room = R from hR.symm]
  refine ti_mi hx hb hr hlocks (fun Q ret => ?_)
  have hl := lv_entry [.ref a0, .int x1] (n := 2) (Nat.le_of_ble_eq_true rfl)
  rw [lg_entry_eq]
  generalize (lg_sl [.ref a0, .int x1] ++ List.replicate (2 - (lg_sl [.ref a0, .int x1]).length) Slot.unset).toArray = ls at hl ⊢
  have hl : lv_has ls 2 [(0, .ref a0), (1, .int x1)] := hl
  have hS : va_S (pA Y) s.heap s.heap [] := va_S.rf
  refine lv_aload_n hx hb dX10_loses_0 rfl (lv_at hl 0 rfl) ?_
  refine lv_iload_n hx hb dX10_loses_1 rfl (lv_at hl 1 rfl) ?_
  refine ti_calli (va_runV (As := [.int x1]) (rest := []) ⟨hx, hb, hml, hown, hts⟩ (t_X10_isPerson l hT ha0 (iv_w hx1 (by decide))) (cwV 1 hts (good_V kw_486 kw_487 kw_488 kw_5 kw_489) rfl rfl rfl (by decide +kernel) ⟨by rw [hR]; decide, by rw [hR]; decide⟩) (ti_preV hK hT ha0 rfl rfl) rfl rfl hl.1 rfl (lv_room (Nat.le_of_ble_eq_true rfl)) dX10_loses_2 ⟨Nat.zero_le _, Nat.zero_le _⟩) hS (fun _ h => h) (fun v2 H1 locs hB hS _ _ => ?_)
  obtain ⟨hH, hv2⟩ := hB
  rw [hH] at hS ⊢
  refine lv_if_eq (tgt := 16) hx hb dX10_loses_5 (by decide) (fun c5 => ?_) (fun c5 => ?_)
  · skip
    have kl0 : (0 : Int32).toInt = 0 := by decide
    have f5 := i_eq c5
    refine lv_bipush (v := (-2)) hx hb dX10_loses_16 (by decide) ?_
    exact ret _ _ _ _ _ dX10_loses_18 (⟨rfl, iv_w (iv_c (x := (-2 : Int32)) (k := (-2)) (by decide)) (by decide)⟩) hS
  · skip
    have kl0 : (0 : Int32).toInt = 0 := by decide
    have f5 := i_ne c5
    exact (iv_no (show iv v2 1 (-1) from iv_nel hv2 (iv_c (x := (0 : Int32)) (k := 0) (by decide)) c5 (by decide)) (by decide)).elim
set_option maxHeartbeats 4000000 in
set_option maxRecDepth 100000 in
theorem t_X10_stroke (l : Launch) {D : va_G} {c0 : Nat → ClassId} {Y : Nat → Option Nat} {H : Heap} (hT : TI D vwCl (tysOf c0) (RT1 false) Y H) {a0 : Nat} (ha0 : Y a0 = some 10) : Met l yX10_stroke (wz yX10_stroke cX10_stroke 1 (some .int)) { frames := 1, cells := 0, slots := 0, locals := 20 } (TP D vwCl (tysOf c0) H [.ref a0]) (TQi (fun x H' => H' = H ∧ iv x (-2) (-2)) Y) 0 0 (pA Y) := by
  refine Met.ofW (cc := cX10_stroke) (maxL := 1) (ret := (some .int)) (by decide) rfl ?_
  intro p e s m args below meth c s₁ B hml hv
  obtain ⟨rfl, rfl, hK⟩ := hv
  have hx := B.exec
  have hb := B.bytes
  have hr := B.returns
  have hts : ∀ w ∈ wq, w.before _ s = true := fun w h => atoms_spec (ws := wz yX10_stroke cX10_stroke 1 (some .int)) B.pre w (List.mem_cons_of_mem _ h)
  have hown : s.vm.findClass RX10 = some m.cls := findClass_of_methodNamed B.named
  have hlocks := B.notSynchronized
  obtain ⟨R, hR⟩ : ∃ R : Room, R = ({ frames := 1, cells := 0, slots := 0, locals := 20 } : Room) := ⟨_, rfl⟩
  rw [show (headSpec (wz yX10_stroke cX10_stroke 1 (some .int)) { frames := 1, cells := 0, slots := 0, locals := 20 }).room = R from hR.symm]
  refine ti_mi hx hb hr hlocks (fun Q ret => ?_)
  have hl := lv_entry [.ref a0] (n := 1) (Nat.le_of_ble_eq_true rfl)
  rw [lg_entry_eq]
  generalize (lg_sl [.ref a0] ++ List.replicate (1 - (lg_sl [.ref a0]).length) Slot.unset).toArray = ls at hl ⊢
  have hl : lv_has ls 1 [(0, .ref a0)] := hl
  have hS : va_S (pA Y) s.heap s.heap [] := va_S.rf
  refine lv_aload_n hx hb dX10_stroke_0 rfl (lv_at hl 0 rfl) ?_
  refine ti_calli (va_runV (As := []) (rest := []) ⟨hx, hb, hml, hown, hts⟩ (t_X10_people l hT ha0) (cwV 0 hts (good_V kw_605 kw_606 kw_607 kw_5 kw_608) rfl rfl rfl (by decide +kernel) ⟨by rw [hR]; decide, by rw [hR]; decide⟩) (ti_preV hK hT ha0 rfl rfl) rfl rfl hl.1 rfl (lv_room (Nat.le_of_ble_eq_true rfl)) dX10_stroke_1 ⟨Nat.zero_le _, Nat.zero_le _⟩) hS (fun _ h => h) (fun v1 H1 locs hB hS _ _ => ?_)
  obtain ⟨hH, hv1⟩ := hB
  rw [hH] at hS ⊢
  refine lv_if_le (tgt := 14) hx hb dX10_stroke_4 (by decide) (fun c4 => ?_) (fun c4 => ?_)
  · skip
    have kl0 : (0 : Int32).toInt = 0 := by decide
    have f4 := i_le c4
    refine lv_bipush (v := (-2)) hx hb dX10_stroke_14 (by decide) ?_
    exact ret _ _ _ _ _ dX10_stroke_16 (⟨rfl, iv_w (iv_c (x := (-2 : Int32)) (k := (-2)) (by decide)) (by decide)⟩) hS
  · skip
    have kl0 : (0 : Int32).toInt = 0 := by decide
    have f4 := i_nle c4
    exact (iv_no (show iv (0 : Int32) 0 (-1) from iv_ltl (iv_c (x := (0 : Int32)) (k := 0) (by decide)) hv1 (Int32.not_le.mp c4) (by decide)) (by decide)).elim
set_option maxHeartbeats 4000000 in
set_option maxRecDepth 100000 in
theorem t_X10_act (l : Launch) {D : va_G} {c0 : Nat → ClassId} {Y : Nat → Option Nat} {H : Heap} (hT : TI D vwCl (tysOf c0) (RT1 false) Y H) {a0 : Nat} (ha0 : Y a0 = some 10) {x1 : Int32} (hx1 : iv x1 (-2147483648) 2147483647) {x2 : Int32} (hx2 : iv x2 (-2147483648) 2147483647) {x3 : Int32} (hx3 : iv x3 (-2147483648) 2147483647) {x4 : Int32} (hx4 : iv x4 (-2147483648) 2147483647) {x5 : Int32} (hx5 : iv x5 (-2147483648) 2147483647) : Met l yX10_act (wz yX10_act cX10_act 7 (some .int)) { frames := 3, cells := 0, slots := 0, locals := 72 } (TP D vwCl (tysOf c0) H [.ref a0, .int x1, .int x2, .int x3, .int x4, .int x5]) (TQi (fun x H' => H' = H ∧ iv x (-2) (-2)) Y) 0 0 (pA Y) := by
  refine Met.ofW (cc := cX10_act) (maxL := 7) (ret := (some .int)) (by decide) rfl ?_
  intro p e s m args below meth c s₁ B hml hv
  obtain ⟨rfl, rfl, hK⟩ := hv
  have hx := B.exec
  have hb := B.bytes
  have hr := B.returns
  have hts : ∀ w ∈ wq, w.before _ s = true := fun w h => atoms_spec (ws := wz yX10_act cX10_act 7 (some .int)) B.pre w (List.mem_cons_of_mem _ h)
  have hown : s.vm.findClass RX10 = some m.cls := findClass_of_methodNamed B.named
  have hlocks := B.notSynchronized
  obtain ⟨R, hR⟩ : ∃ R : Room, R = ({ frames := 3, cells := 0, slots := 0, locals := 72 } : Room) := ⟨_, rfl⟩
  rw [show (headSpec (wz yX10_act cX10_act 7 (some .int)) { frames := 3, cells := 0, slots := 0, locals := 72 }).room = R from hR.symm]
  refine ti_mi hx hb hr hlocks (fun Q ret => ?_)
  have hl := lv_entry [.ref a0, .int x1, .int x2, .int x3, .int x4, .int x5] (n := 7) (Nat.le_of_ble_eq_true rfl)
  rw [lg_entry_eq]
  generalize (lg_sl [.ref a0, .int x1, .int x2, .int x3, .int x4, .int x5] ++ List.replicate (7 - (lg_sl [.ref a0, .int x1, .int x2, .int x3, .int x4, .int x5]).length) Slot.unset).toArray = ls at hl ⊢
  have hl : lv_has ls 7 [(0, .ref a0), (1, .int x1), (2, .int x2), (3, .int x3), (4, .int x4), (5, .int x5)] := hl
  have hS : va_S (pA Y) s.heap s.heap [] := va_S.rf
  refine lv_aload_n hx hb dX10_act_0 rfl (lv_at hl 0 rfl) ?_
  refine lv_iload_n hx hb dX10_act_1 rfl (lv_at hl 1 rfl) ?_
  refine lv_iload_n hx hb dX10_act_2 rfl (lv_at hl 2 rfl) ?_
  refine lv_iload_n hx hb dX10_act_3 rfl (lv_at hl 3 rfl) ?_
  refine lv_iload hx hb dX10_act_4 (lv_at hl 4 rfl) ?_
  refine lv_iload hx hb dX10_act_6 (lv_at hl 5 rfl) ?_
  refine ti_calli (va_runV (As := [.int x1, .int x2, .int x3, .int x4, .int x5]) (rest := []) ⟨hx, hb, hml, hown, hts⟩ (t_X10_why l hT ha0 (iv_w hx1 (by decide)) (iv_w hx2 (by decide)) (iv_w hx3 (by decide)) (iv_w hx4 (by decide)) (iv_w hx5 (by decide))) (cwV 5 hts (good_V kw_779 kw_780 kw_781 kw_5 kw_782) rfl rfl rfl (by decide +kernel) ⟨by rw [hR]; decide, by rw [hR]; decide⟩) (ti_preV hK hT ha0 rfl rfl) rfl rfl hl.1 rfl (lv_room (Nat.le_of_ble_eq_true rfl)) dX10_act_8 ⟨Nat.zero_le _, Nat.zero_le _⟩) hS (fun _ h => h) (fun v8 H1 locs hB hS _ _ => ?_)
  obtain ⟨hH, hv8⟩ := hB
  rw [hH] at hS ⊢
  refine lv_istore (lv' := [(6, .int v8), (0, .ref a0), (1, .int x1), (2, .int x2), (3, .int x3), (4, .int x4), (5, .int x5)]) hx hb dX10_act_11 hl (by decide) rfl (fun ls hl => ?_)
  refine lv_iload hx hb dX10_act_13 (lv_at hl 0 rfl) ?_
  refine lv_if_ge (tgt := 21) hx hb dX10_act_15 (by decide) (fun c15 => ?_) (fun c15 => ?_)
  · skip
    have kl0 : (0 : Int32).toInt = 0 := by decide
    have f15 := i_le c15
    exact (iv_no (show iv (0 : Int32) 0 (-2) from iv_lel (iv_c (x := (0 : Int32)) (k := 0) (by decide)) hv8 c15 (by decide)) (by decide)).elim
  · skip
    have kl0 : (0 : Int32).toInt = 0 := by decide
    have f15 := i_nle c15
    refine lv_iload hx hb dX10_act_18 (lv_at hl 0 rfl) ?_
    exact ret _ _ _ _ _ dX10_act_20 (⟨rfl, iv_w hv8 (by decide)⟩) hS
set_option maxHeartbeats 4000000 in
set_option maxRecDepth 100000 in
theorem t_X10_judge (l : Launch) {D : va_G} {c0 : Nat → ClassId} {Y : Nat → Option Nat} {H : Heap} (hT : TI D vwCl (tysOf c0) (RT1 false) Y H) {a0 : Nat} (ha0 : Y a0 = some 10) {x1 : Int32} (hx1 : iv x1 (-2147483648) 2147483647) : Met l yX10_judge (wz yX10_judge cX10_judge 5 (some .int)) { frames := 2, cells := 0, slots := 0, locals := 45 } (TP D vwCl (tysOf c0) H [.ref a0, .int x1]) (TQi (fun x H' => H' = H ∧ (((x1.toInt < 0 ∨ 3 < x1.toInt) ∧ x.toInt = -2) ∨ (0 ≤ x1.toInt ∧ x1.toInt ≤ 3 ∧ x.toInt = -6))) Y) 0 0 (pA Y) := by
  refine Met.ofW (cc := cX10_judge) (maxL := 5) (ret := (some .int)) (by decide) rfl ?_
  intro p e s m args below meth c s₁ B hml hv
  obtain ⟨rfl, rfl, hK⟩ := hv
  have hx := B.exec
  have hb := B.bytes
  have hr := B.returns
  have hts : ∀ w ∈ wq, w.before _ s = true := fun w h => atoms_spec (ws := wz yX10_judge cX10_judge 5 (some .int)) B.pre w (List.mem_cons_of_mem _ h)
  have hown : s.vm.findClass RX10 = some m.cls := findClass_of_methodNamed B.named
  have hlocks := B.notSynchronized
  obtain ⟨R, hR⟩ : ∃ R : Room, R = ({ frames := 2, cells := 0, slots := 0, locals := 45 } : Room) := ⟨_, rfl⟩
  rw [show (headSpec (wz yX10_judge cX10_judge 5 (some .int)) { frames := 2, cells := 0, slots := 0, locals := 45 }).room = R from hR.symm]
  refine ti_mi hx hb hr hlocks (fun Q ret => ?_)
  have hl := lv_entry [.ref a0, .int x1] (n := 5) (Nat.le_of_ble_eq_true rfl)
  rw [lg_entry_eq]
  generalize (lg_sl [.ref a0, .int x1] ++ List.replicate (5 - (lg_sl [.ref a0, .int x1]).length) Slot.unset).toArray = ls at hl ⊢
  have hl : lv_has ls 5 [(0, .ref a0), (1, .int x1)] := hl
  have hS : va_S (pA Y) s.heap s.heap [] := va_S.rf
  refine lv_iload_n hx hb dX10_judge_0 rfl (lv_at hl 1 rfl) ?_
  refine ti_calli (va_runS (As := [.int x1]) (rest := []) ⟨hx, hb, hml, hown, hts⟩ (t_X10_isSlot l hT (iv_w hx1 (by decide))) (cwS 1 hts (good_S kw_816 kw_817 kw_5 kw_818) rfl rfl rfl (by decide +kernel) ⟨by rw [hR]; decide, by rw [hR]; decide⟩) (ti_preS hK) rfl rfl hl.1 rfl (lv_room (Nat.le_of_ble_eq_true rfl)) dX10_judge_1 ⟨Nat.zero_le _, Nat.zero_le _⟩) hS (fun _ h => h) (fun v1 H1 locs hB hS _ _ => ?_)
  obtain ⟨hH, hv1, hp1⟩ := hB
  rw [hH] at hS ⊢
  refine lv_if_ne (tgt := 10) hx hb dX10_judge_4 (by decide) (fun c4 => ?_) (fun c4 => ?_)
  · skip
    have kl0 : (0 : Int32).toInt = 0 := by decide
    have f4 := i_ne c4
    have hv1_4l : iv v1 1 1 := iv_nel hv1 (iv_c (x := (0 : Int32)) (k := 0) (by decide)) c4 (by decide)
    have hx1_4p : iv x1 0 3 := by have b0a := (hx1).1; have b0b := (hx1).2; exact ⟨by omega, by omega⟩
    refine lv_aload_n hx hb dX10_judge_10 rfl (lv_at hl 0 rfl) ?_
    refine ti_getr hx hb hts inlX10 hown hK hT ha0 rfl rfl 34 (by decide) (hts _ kw_151) (fun _ h9 => h9) rfl dX10_judge_11 (fun v11 hv11 => ?_)
    refine lv_iload_n hx hb dX10_judge_14 rfl (lv_at hl 1 rfl) ?_
    refine ti_iald (lo := (-1)) (hi := (-1)) hx hb (aT0 hK) hT hv11 rfl hx1_4p (by decide) (fun _ _ _ => ⟨_, _, rfl, by decide, by decide⟩) dX10_judge_15 (fun v15 hv15 => ?_)
    refine lv_iconst (v := (-1)) hx hb dX10_judge_16 (by decide) ?_
    refine lv_icmp_ne (tgt := 23) hx hb dX10_judge_17 (by decide) (fun c17 => ?_) (fun c17 => ?_)
    · skip
      have klm1 : (-1 : Int32).toInt = (-1) := by decide
      have f17 := i_ne c17
      exact (iv_no (show iv v15 0 (-2) from iv_nel hv15 (iv_c (x := (-1 : Int32)) (k := (-1)) (by decide)) c17 (by decide)) (by decide)).elim
    · skip
      have klm1 : (-1 : Int32).toInt = (-1) := by decide
      have f17 := i_eq c17
      refine lv_bipush (v := (-6)) hx hb dX10_judge_20 (by decide) ?_
      have klm6 : (-6 : Int32).toInt = (-6) := by decide
      exact ret _ _ _ _ _ dX10_judge_22 (⟨rfl, by have b0a := (hx1_4p).1; have b0b := (hx1_4p).2; have b1a := (hv1_4l).1; have b1b := (hv1_4l).2; have b2a := (hv15).1; have b2b := (hv15).2; omega⟩) hS
  · skip
    have kl0 : (0 : Int32).toInt = 0 := by decide
    have f4 := i_eq c4
    have hv1_4l : iv v1 0 0 := iv_eql hv1 (iv_c (x := (0 : Int32)) (k := 0) (by decide)) c4 (by decide)
    refine lv_bipush (v := (-2)) hx hb dX10_judge_7 (by decide) ?_
    have klm2 : (-2 : Int32).toInt = (-2) := by decide
    exact ret _ _ _ _ _ dX10_judge_9 (⟨rfl, by have b0a := (hx1).1; have b0b := (hx1).2; have b1a := (hv1_4l).1; have b1b := (hv1_4l).2; omega⟩) hS
