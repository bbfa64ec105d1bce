set_option maxHeartbeats 4000000 in
set_option maxRecDepth 100000 in
theorem t_X9_isSlot_x (l : Launch) {D : va_G} {c0 : Nat → ClassId} {Y : Nat → Option Nat} {ν : Nat → Nat} {H : Heap} (hT : TI D vwCl (tysOf c0) (RTg ν) Y H) {x0 : Int32} (hx0 : iv x0 (-2147483648) 2147483647) : Met l yX9_isSlot (wz yX9_isSlot cX9_isSlot 1 (some .boolean)) { frames := 0, cells := 0, slots := 0, locals := 0 } (TP D vwCl (tysOf c0) H [.int x0]) (TQi (fun x H' => H' = H ∧ iv x 0 1 ∧ ((((0 ≤ x0.toInt ∧ x0.toInt ≤ 3) ∧ x.toInt = 1) ∨ (¬ (0 ≤ x0.toInt ∧ x0.toInt ≤ 3) ∧ x.toInt = 0)))) Y []) 0 0 (pW Y []) := by
  refine Met.ofW (cc := cX9_isSlot) (maxL := 1) (ret := (some .boolean)) (by decide) rfl ?_
  intro p e s m args below meth c s₁ B hml hv
  obtain ⟨rfl, rfl, hK⟩ := hv
  have hx := B.exec
  have hb := B.bytes
  have hr := B.returns
  have hts : ∀ w ∈ wq, w.before _ s = true := fun w h => atoms_spec (ws := wz yX9_isSlot cX9_isSlot 1 (some .boolean)) B.pre w (List.mem_cons_of_mem _ h)
  have hown : s.vm.findClass RX9 = some m.cls := findClass_of_methodNamed B.named
  have hlocks := B.notSynchronized
  obtain ⟨R, hR⟩ : ∃ R : Room, R = ({ frames := 0, cells := 0, slots := 0, locals := 0 } : Room) := ⟨_, rfl⟩
  rw [show (headSpec (wz yX9_isSlot cX9_isSlot 1 (some .boolean)) { frames := 0, cells := 0, slots := 0, locals := 0 }).room = R from hR.symm]
  refine ti_mz hx hb hr hlocks (fun Q ret => ?_)
  have hl := lv_entry [.int x0] (n := 1) (Nat.le_of_ble_eq_true rfl)
  rw [lg_entry_eq]
  generalize (lg_sl [.int x0] ++ List.replicate (1 - (lg_sl [.int x0]).length) Slot.unset).toArray = ls at hl ⊢
  have hl : lv_has ls 1 [(0, .int x0)] := hl
  have hS : va_S (pW Y []) s.heap s.heap [] := va_S.rf
  refine lv_iload_n hx hb dX9_isSlot_0 rfl (lv_at hl 0 rfl) ?_
  refine lv_if_lt (tgt := 13) hx hb dX9_isSlot_1 (by decide) (fun c1 => ?_) (fun c1 => ?_)
  · skip
    have kl0 : (0 : Int32).toInt = 0 := by decide
    have f1 := i_lt c1
    have hx0_1l : iv x0 (-2147483648) (-1) := iv_ltl hx0 (iv_c (x := (0 : Int32)) (k := 0) (by decide)) c1 (by decide)
    refine lv_iconst (v := 0) hx hb dX9_isSlot_13 (by decide) ?_
    exact ret _ _ _ _ _ dX9_isSlot_14 (iv_w (iv_c (x := (0 : Int32)) (k := 0) (by decide)) (by decide)) (⟨rfl, iv_w (iv_c (x := (0 : Int32)) (k := 0) (by decide)) (by decide), by have b0a := (hx0_1l).1; have b0b := (hx0_1l).2; omega⟩) hS
  · skip
    have kl0 : (0 : Int32).toInt = 0 := by decide
    have f1 := i_nlt c1
    have hx0_1r : iv x0 0 2147483647 := iv_ler (iv_c (x := (0 : Int32)) (k := 0) (by decide)) hx0 (Int32.not_lt.mp c1) (by decide)
    refine lv_iload_n hx hb dX9_isSlot_4 rfl (lv_at hl 0 rfl) ?_
    refine lv_iconst (v := 4) hx hb dX9_isSlot_5 (by decide) ?_
    refine lv_icmp_ge (tgt := 13) hx hb dX9_isSlot_6 (by decide) (fun c6 => ?_) (fun c6 => ?_)
    · skip
      have kl4 : (4 : Int32).toInt = 4 := by decide
      have f6 := i_le c6
      have hx0_6r : iv x0 4 2147483647 := iv_ler (iv_c (x := (4 : Int32)) (k := 4) (by decide)) hx0_1r c6 (by decide)
      refine lv_iconst (v := 0) hx hb dX9_isSlot_13 (by decide) ?_
      exact ret _ _ _ _ _ dX9_isSlot_14 (iv_w (iv_c (x := (0 : Int32)) (k := 0) (by decide)) (by decide)) (⟨rfl, iv_w (iv_c (x := (0 : Int32)) (k := 0) (by decide)) (by decide), by have b0a := (hx0_6r).1; have b0b := (hx0_6r).2; omega⟩) hS
    · skip
      have kl4 : (4 : Int32).toInt = 4 := by decide
      have f6 := i_nle c6
      have hx0_6l : iv x0 0 3 := iv_ltl hx0_1r (iv_c (x := (4 : Int32)) (k := 4) (by decide)) (Int32.not_le.mp c6) (by decide)
      refine lv_iconst (v := 1) hx hb dX9_isSlot_9 (by decide) ?_
      refine lv_goto (tgt := 14) hx hb dX9_isSlot_10 (by decide) ?_
      have kl1 : (1 : Int32).toInt = 1 := by decide
      exact ret _ _ _ _ _ dX9_isSlot_14 (iv_w (iv_c (x := (1 : Int32)) (k := 1) (by decide)) (by decide)) (⟨rfl, iv_w (iv_c (x := (1 : Int32)) (k := 1) (by decide)) (by decide), by have b0a := (hx0_6l).1; have b0b := (hx0_6l).2; omega⟩) hS
set_option maxHeartbeats 4000000 in
set_option maxRecDepth 100000 in
theorem t_X9_row_x (l : Launch) {D : va_G} {c0 : Nat → ClassId} {Y : Nat → Option Nat} {ν : Nat → Nat} {H : Heap} (hT : TI D vwCl (tysOf c0) (RTg ν) Y H) {a0 : Nat} (ha0 : Y a0 = some 9) {x1 : Int32} (hx1 : iv x1 (-2147483648) 2147483647) {x2 : Int32} (hx2 : iv x2 (-2147483648) 2147483647) {x3 : Int32} (hx3 : iv x3 (-2147483648) 2147483647) : Met l yX9_row (wz yX9_row cX9_row 4 (some .int)) { frames := 1, cells := 0, slots := 0, locals := 23 } (TP D vwCl (tysOf c0) H [.ref a0, .int x1, .int x2, .int x3]) (TQi (fun x H' => TI D vwCl (tysOf c0) (RTg ν) Y H' ∧ iv x (-3) 0 ∧ (((((0 ≤ x1.toInt ∧ x1.toInt ≤ 3) ∧ (0 ≤ x2.toInt ∧ x2.toInt ≤ 3) ∧ x3.toInt ≤ 60) ∧ 0 ≤ x3.toInt ∧ x.toInt = 0) ∨ (((0 ≤ x1.toInt ∧ x1.toInt ≤ 3) ∧ (0 ≤ x2.toInt ∧ x2.toInt ≤ 3) ∧ x3.toInt ≤ 60) ∧ x3.toInt < 0 ∧ x.toInt = -3) ∨ (¬ ((0 ≤ x1.toInt ∧ x1.toInt ≤ 3) ∧ (0 ≤ x2.toInt ∧ x2.toInt ≤ 3) ∧ x3.toInt ≤ 60) ∧ x.toInt = -2)))) Y [5, 27]) 0 0 (pW Y [5, 27]) := by
  refine Met.ofW (cc := cX9_row) (maxL := 4) (ret := (some .int)) (by decide) rfl ?_
  intro p e s m args below meth c s₁ B hml hv
  obtain ⟨rfl, rfl, hK⟩ := hv
  have hx := B.exec
  have hb := B.bytes
  have hr := B.returns
  have hts : ∀ w ∈ wq, w.before _ s = true := fun w h => atoms_spec (ws := wz yX9_row cX9_row 4 (some .int)) B.pre w (List.mem_cons_of_mem _ h)
  have hown : s.vm.findClass RX9 = some m.cls := findClass_of_methodNamed B.named
  have hlocks := B.notSynchronized
  obtain ⟨R, hR⟩ : ∃ R : Room, R = ({ frames := 1, cells := 0, slots := 0, locals := 23 } : Room) := ⟨_, rfl⟩
  rw [show (headSpec (wz yX9_row cX9_row 4 (some .int)) { frames := 1, cells := 0, slots := 0, locals := 23 }).room = R from hR.symm]
  refine ti_mi hx hb hr hlocks (fun Q ret => ?_)
  have hl := lv_entry [.ref a0, .int x1, .int x2, .int x3] (n := 4) (Nat.le_of_ble_eq_true rfl)
  rw [lg_entry_eq]
  generalize (lg_sl [.ref a0, .int x1, .int x2, .int x3] ++ List.replicate (4 - (lg_sl [.ref a0, .int x1, .int x2, .int x3]).length) Slot.unset).toArray = ls at hl ⊢
  have hl : lv_has ls 4 [(0, .ref a0), (1, .int x1), (2, .int x2), (3, .int x3)] := hl
  refine ti_gen (P := fun H => TI D vwCl (tysOf c0) (RTg ν) Y H) (Y := Y) (ws := [5, 27]) hT (fun H locs hT hS => ?_)
  refine lv_iload_n hx hb dX9_row_0 rfl (lv_at hl 1 rfl) ?_
  refine ti_calli (va_runS (As := [.int x1]) (rest := []) ⟨hx, hb, hml, hown, hts⟩ (t_X9_isSlot_x l hT (iv_w hx1 (by decide))) (cwS 1 hts (good_S kw_1533 kw_1534 kw_2 kw_1535) rfl rfl rfl (by decide +kernel) ⟨by rw [hR]; decide, by rw [hR]; decide⟩) (ti_preS hK) rfl rfl hl.1 rfl (lv_room (Nat.le_of_ble_eq_true rfl)) dX9_row_1 ⟨Nat.zero_le _, Nat.zero_le _⟩) hS (pW_sub rfl) (fun v1 H1 locs hB hS _ hk1 => ?_)
  obtain ⟨hH, hv1, hp1⟩ := hB
  rw [hH] at hS ⊢
  refine lv_if_eq (tgt := 22) hx hb dX9_row_4 (by decide) (fun c4 => ?_) (fun c4 => ?_)
  · skip
    have kl0 : (0 : Int32).toInt = 0 := by decide
    have f4 := i_eq c4
    have hv1_4l : iv v1 0 0 := iv_eql hv1 (iv_c (x := (0 : Int32)) (k := 0) (by decide)) c4 (by decide)
    refine lv_bipush (v := (-2)) hx hb dX9_row_22 (by decide) ?_
    have klm2 : (-2 : Int32).toInt = (-2) := by decide
    exact ret _ _ _ _ _ dX9_row_24 (⟨hT, iv_w (iv_c (x := (-2 : Int32)) (k := (-2)) (by decide)) (by decide), by have b0a := (hx1).1; have b0b := (hx1).2; have b1a := (hx2).1; have b1b := (hx2).2; have b2a := (hx3).1; have b2b := (hx3).2; have b3a := (hv1_4l).1; have b3b := (hv1_4l).2; omega⟩) hS
  · skip
    have kl0 : (0 : Int32).toInt = 0 := by decide
    have f4 := i_ne c4
    have hv1_4l : iv v1 1 1 := iv_nel hv1 (iv_c (x := (0 : Int32)) (k := 0) (by decide)) c4 (by decide)
    have hx1_4p : iv x1 0 3 := by have b0a := (hx1).1; have b0b := (hx1).2; exact ⟨by omega, by omega⟩
    refine lv_iload_n hx hb dX9_row_7 rfl (lv_at hl 2 rfl) ?_
    refine lv_if_lt (tgt := 22) hx hb dX9_row_8 (by decide) (fun c8 => ?_) (fun c8 => ?_)
    · skip
      have f8 := i_lt c8
      have hx2_8l : iv x2 (-2147483648) (-1) := iv_ltl hx2 (iv_c (x := (0 : Int32)) (k := 0) (by decide)) c8 (by decide)
      refine lv_bipush (v := (-2)) hx hb dX9_row_22 (by decide) ?_
      have klm2 : (-2 : Int32).toInt = (-2) := by decide
      exact ret _ _ _ _ _ dX9_row_24 (⟨hT, iv_w (iv_c (x := (-2 : Int32)) (k := (-2)) (by decide)) (by decide), by have b0a := (hx1_4p).1; have b0b := (hx1_4p).2; have b1a := (hx2_8l).1; have b1b := (hx2_8l).2; have b2a := (hx3).1; have b2b := (hx3).2; have b3a := (hv1_4l).1; have b3b := (hv1_4l).2; omega⟩) hS
    · skip
      have f8 := i_nlt c8
      have hx2_8r : iv x2 0 2147483647 := iv_ler (iv_c (x := (0 : Int32)) (k := 0) (by decide)) hx2 (Int32.not_lt.mp c8) (by decide)
      refine lv_iload_n hx hb dX9_row_11 rfl (lv_at hl 2 rfl) ?_
      refine lv_iconst (v := 4) hx hb dX9_row_12 (by decide) ?_
      refine lv_icmp_ge (tgt := 22) hx hb dX9_row_13 (by decide) (fun c13 => ?_) (fun c13 => ?_)
      · skip
        have kl4 : (4 : Int32).toInt = 4 := by decide
        have f13 := i_le c13
        have hx2_13r : iv x2 4 2147483647 := iv_ler (iv_c (x := (4 : Int32)) (k := 4) (by decide)) hx2_8r c13 (by decide)
        refine lv_bipush (v := (-2)) hx hb dX9_row_22 (by decide) ?_
        have klm2 : (-2 : Int32).toInt = (-2) := by decide
        exact ret _ _ _ _ _ dX9_row_24 (⟨hT, iv_w (iv_c (x := (-2 : Int32)) (k := (-2)) (by decide)) (by decide), by have b0a := (hx1_4p).1; have b0b := (hx1_4p).2; have b1a := (hx2_13r).1; have b1b := (hx2_13r).2; have b2a := (hx3).1; have b2b := (hx3).2; have b3a := (hv1_4l).1; have b3b := (hv1_4l).2; omega⟩) hS
      · skip
        have kl4 : (4 : Int32).toInt = 4 := by decide
        have f13 := i_nle c13
        have hx2_13l : iv x2 0 3 := iv_ltl hx2_8r (iv_c (x := (4 : Int32)) (k := 4) (by decide)) (Int32.not_le.mp c13) (by decide)
        refine lv_iload_n hx hb dX9_row_16 rfl (lv_at hl 3 rfl) ?_
        refine lv_bipush (v := 60) hx hb dX9_row_17 (by decide) ?_
        refine lv_icmp_le (tgt := 25) hx hb dX9_row_19 (by decide) (fun c19 => ?_) (fun c19 => ?_)
        · skip
          have kl60 : (60 : Int32).toInt = 60 := by decide
          have f19 := i_le c19
          have hx3_19l : iv x3 (-2147483648) 60 := iv_lel hx3 (iv_c (x := (60 : Int32)) (k := 60) (by decide)) c19 (by decide)
          refine lv_iload_n hx hb dX9_row_25 rfl (lv_at hl 3 rfl) ?_
          refine lv_if_ge (tgt := 32) hx hb dX9_row_26 (by decide) (fun c26 => ?_) (fun c26 => ?_)
          · skip
            have f26 := i_le c26
            have hx3_26r : iv x3 0 60 := iv_ler (iv_c (x := (0 : Int32)) (k := 0) (by decide)) hx3_19l c26 (by decide)
            refine lv_aload_n hx hb dX9_row_32 rfl (lv_at hl 0 rfl) ?_
            refine ti_getr hx hb hts inlX9 hown hK hT ha0 rfl rfl rfl 5 (by decide) (hts _ kw_26) (fun _ h9 => h9) rfl dX9_row_33 (fun v33 hv33 hm33 => ?_)
            refine lv_iload_n hx hb dX9_row_36 rfl (lv_at hl 1 rfl) ?_
            refine ti_aald hx hb (aT5 hK) hT hv33 rfl hx1_4p (by decide) (fun _ _ _ => rfl) dX9_row_37 (fun v37 hv37 => ?_)
            refine lv_iload_n hx hb dX9_row_38 rfl (lv_at hl 2 rfl) ?_
            refine lv_iload_n hx hb dX9_row_39 rfl (lv_at hl 3 rfl) ?_
            refine ti_callv (va_runV (As := [.int x2, .int x3]) (rest := []) ⟨hx, hb, hml, hown, hts⟩ (t_X5_begin l hT hv37 (iv_w hx2_13l (by decide)) (iv_w hx3_26r (by decide))) (cwV 2 hts (good_V kw_1536 kw_1537 kw_1538 kw_43 kw_1539) rfl rfl rfl (by decide +kernel) ⟨by rw [hR]; decide, by rw [hR]; decide⟩) (ti_preV hK hT hv37 rfl rfl) rfl rfl hl.1 rfl (lv_room (Nat.le_of_ble_eq_true rfl)) dX9_row_40 ⟨Nat.zero_le _, Nat.zero_le _⟩) hS (pW_sub rfl) (fun H locs hB hS _ hk40 => ?_)
            have hT := hB
            refine lv_iconst (v := 0) hx hb dX9_row_43 (by decide) ?_
            exact ret _ _ _ _ _ dX9_row_44 (⟨hT, iv_w (iv_c (x := (0 : Int32)) (k := 0) (by decide)) (by decide), by have b0a := (hx1_4p).1; have b0b := (hx1_4p).2; have b1a := (hx2_13l).1; have b1b := (hx2_13l).2; have b2a := (hx3_26r).1; have b2b := (hx3_26r).2; have b3a := (hv1_4l).1; have b3b := (hv1_4l).2; omega⟩) hS
          · skip
            have f26 := i_nle c26
            have hx3_26l : iv x3 (-2147483648) (-1) := iv_ltl hx3_19l (iv_c (x := (0 : Int32)) (k := 0) (by decide)) (Int32.not_le.mp c26) (by decide)
            refine lv_bipush (v := (-3)) hx hb dX9_row_29 (by decide) ?_
            have klm3 : (-3 : Int32).toInt = (-3) := by decide
            exact ret _ _ _ _ _ dX9_row_31 (⟨hT, iv_w (iv_c (x := (-3 : Int32)) (k := (-3)) (by decide)) (by decide), by have b0a := (hx1_4p).1; have b0b := (hx1_4p).2; have b1a := (hx2_13l).1; have b1b := (hx2_13l).2; have b2a := (hx3_26l).1; have b2b := (hx3_26l).2; have b3a := (hv1_4l).1; have b3b := (hv1_4l).2; omega⟩) hS
        · skip
          have kl60 : (60 : Int32).toInt = 60 := by decide
          have f19 := i_nle c19
          have hx3_19r : iv x3 61 2147483647 := iv_ltr (iv_c (x := (60 : Int32)) (k := 60) (by decide)) hx3 (Int32.not_le.mp c19) (by decide)
          refine lv_bipush (v := (-2)) hx hb dX9_row_22 (by decide) ?_
          have klm2 : (-2 : Int32).toInt = (-2) := by decide
          exact ret _ _ _ _ _ dX9_row_24 (⟨hT, iv_w (iv_c (x := (-2 : Int32)) (k := (-2)) (by decide)) (by decide), by have b0a := (hx1_4p).1; have b0b := (hx1_4p).2; have b1a := (hx2_13l).1; have b1b := (hx2_13l).2; have b2a := (hx3_19r).1; have b2b := (hx3_19r).2; have b3a := (hv1_4l).1; have b3b := (hv1_4l).2; omega⟩) hS
set_option maxHeartbeats 4000000 in
set_option maxRecDepth 100000 in
theorem t_X10_in_x (l : Launch) {D : va_G} {c0 : Nat → ClassId} {Y : Nat → Option Nat} {ν : Nat → Nat} {H : Heap} (hT : TI D vwCl (tysOf c0) (RTg ν) Y H) {x0 : Int64} (hx0 : jv x0 (-9223372036854775808) 9223372036854775807) {x1 : Int64} (hx1 : jv x1 (-1) 97) {x2 : Int64} (hx2 : jv x2 (-2147483648) 2000000000) : Met l yX10_in (wz yX10_in cX10_in 6 (some .boolean)) { frames := 0, cells := 0, slots := 0, locals := 0 } (TP D vwCl (tysOf c0) H [.long x0, .long x1, .long x2]) (TQi (fun x H' => H' = H ∧ iv x 0 1 ∧ ((((x1.toInt ≤ x0.toInt ∧ x0.toInt ≤ x2.toInt) ∧ x.toInt = 1) ∨ (¬ (x1.toInt ≤ x0.toInt ∧ x0.toInt ≤ x2.toInt) ∧ x.toInt = 0)))) Y []) 0 0 (pW Y []) := by
  refine Met.ofW (cc := cX10_in) (maxL := 6) (ret := (some .boolean)) (by decide) rfl ?_
  intro p e s m args below meth c s₁ B hml hv
  obtain ⟨rfl, rfl, hK⟩ := hv
  have hx := B.exec
  have hb := B.bytes
  have hr := B.returns
  have hts : ∀ w ∈ wq, w.before _ s = true := fun w h => atoms_spec (ws := wz yX10_in cX10_in 6 (some .boolean)) B.pre w (List.mem_cons_of_mem _ h)
  have hown : s.vm.findClass RX10 = some m.cls := findClass_of_methodNamed B.named
  have hlocks := B.notSynchronized
  obtain ⟨R, hR⟩ : ∃ R : Room, R = ({ frames := 0, cells := 0, slots := 0, locals := 0 } : Room) := ⟨_, rfl⟩
  rw [show (headSpec (wz yX10_in cX10_in 6 (some .boolean)) { frames := 0, cells := 0, slots := 0, locals := 0 }).room = R from hR.symm]
  refine ti_mz hx hb hr hlocks (fun Q ret => ?_)
  have hl := lv_entry [.long x0, .long x1, .long x2] (n := 6) (Nat.le_of_ble_eq_true rfl)
  rw [lg_entry_eq]
  generalize (lg_sl [.long x0, .long x1, .long x2] ++ List.replicate (6 - (lg_sl [.long x0, .long x1, .long x2]).length) Slot.unset).toArray = ls at hl ⊢
  have hl : lv_has ls 6 [(0, .long x0), (2, .long x1), (4, .long x2)] := hl
  have hS : va_S (pW Y []) s.heap s.heap [] := va_S.rf
  refine lv_lload_n hx hb dX10_in_0 rfl (lv_at hl 0 rfl) ?_
  refine lv_lload_n hx hb dX10_in_1 rfl (lv_at hl 1 rfl) ?_
  refine W.lcmp hx hb dX10_in_2 ?_
  refine lv_if_lt (tgt := 17) hx hb dX10_in_3 (by decide) (fun c3 => ?_) (fun c3 => ?_)
  · skip
    have kl0 : (0 : Int32).toInt = 0 := by decide
    have f3 := jc_lt c3
    have hx0_3a : jv x0 (-9223372036854775808) 96 := by have b0a := (hx0).1; have b0b := (hx0).2; have b1a := (hx1).1; have b1b := (hx1).2; exact ⟨by omega, by omega⟩
    refine lv_iconst (v := 0) hx hb dX10_in_17 (by decide) ?_
    exact ret _ _ _ _ _ dX10_in_18 (iv_w (iv_c (x := (0 : Int32)) (k := 0) (by decide)) (by decide)) (⟨rfl, iv_w (iv_c (x := (0 : Int32)) (k := 0) (by decide)) (by decide), by have b0a := (hx0_3a).1; have b0b := (hx0_3a).2; have b1a := (hx1).1; have b1b := (hx1).2; have b2a := (hx2).1; have b2b := (hx2).2; omega⟩) hS
  · skip
    have kl0 : (0 : Int32).toInt = 0 := by decide
    have f3 := jc_nlt c3
    have hx0_3a : jv x0 (-1) 9223372036854775807 := by have b0a := (hx0).1; have b0b := (hx0).2; have b1a := (hx1).1; have b1b := (hx1).2; exact ⟨by omega, by omega⟩
    refine lv_lload_n hx hb dX10_in_6 rfl (lv_at hl 0 rfl) ?_
    refine lv_lload hx hb dX10_in_7 (lv_at hl 2 rfl) ?_
    refine W.lcmp hx hb dX10_in_9 ?_
    refine lv_if_gt (tgt := 17) hx hb dX10_in_10 (by decide) (fun c10 => ?_) (fun c10 => ?_)
    · skip
      have f10 := jc_gt c10
      refine lv_iconst (v := 0) hx hb dX10_in_17 (by decide) ?_
      exact ret _ _ _ _ _ dX10_in_18 (iv_w (iv_c (x := (0 : Int32)) (k := 0) (by decide)) (by decide)) (⟨rfl, iv_w (iv_c (x := (0 : Int32)) (k := 0) (by decide)) (by decide), by have b0a := (hx0_3a).1; have b0b := (hx0_3a).2; have b1a := (hx1).1; have b1b := (hx1).2; have b2a := (hx2).1; have b2b := (hx2).2; omega⟩) hS
    · skip
      have f10 := jc_ngt c10
      have hx0_10a : jv x0 (-1) 2000000000 := by have b0a := (hx0_3a).1; have b0b := (hx0_3a).2; have b1a := (hx2).1; have b1b := (hx2).2; exact ⟨by omega, by omega⟩
      have hx2_10b : jv x2 (-1) 2000000000 := by have b0a := (hx0_10a).1; have b0b := (hx0_10a).2; have b1a := (hx2).1; have b1b := (hx2).2; exact ⟨by omega, by omega⟩
      refine lv_iconst (v := 1) hx hb dX10_in_13 (by decide) ?_
      refine lv_goto (tgt := 18) hx hb dX10_in_14 (by decide) ?_
      have kl1 : (1 : Int32).toInt = 1 := by decide
      exact ret _ _ _ _ _ dX10_in_18 (iv_w (iv_c (x := (1 : Int32)) (k := 1) (by decide)) (by decide)) (⟨rfl, iv_w (iv_c (x := (1 : Int32)) (k := 1) (by decide)) (by decide), by have b0a := (hx0_10a).1; have b0b := (hx0_10a).2; have b1a := (hx1).1; have b1b := (hx1).2; have b2a := (hx2_10b).1; have b2b := (hx2_10b).2; omega⟩) hS
set_option maxHeartbeats 4000000 in
set_option maxRecDepth 100000 in
theorem t_X10_isSlot_x (l : Launch) {D : va_G} {c0 : Nat → ClassId} {Y : Nat → Option Nat} {ν : Nat → Nat} {H : Heap} (hT : TI D vwCl (tysOf c0) (RTg ν) Y H) {x0 : Int32} (hx0 : iv x0 (-2147483648) 2147483647) : Met l yX10_isSlot (wz yX10_isSlot cX10_isSlot 1 (some .boolean)) { frames := 1, cells := 0, slots := 0, locals := 25 } (TP D vwCl (tysOf c0) H [.int x0]) (TQi (fun x H' => H' = H ∧ iv x 0 1 ∧ ((((0 ≤ x0.toInt ∧ x0.toInt ≤ 3) ∧ x.toInt = 1) ∨ (¬ (0 ≤ x0.toInt ∧ x0.toInt ≤ 3) ∧ x.toInt = 0)))) Y []) 0 0 (pW Y []) := by
  refine Met.ofW (cc := cX10_isSlot) (maxL := 1) (ret := (some .boolean)) (by decide) rfl ?_
  intro p e s m args below meth c s₁ B hml hv
  obtain ⟨rfl, rfl, hK⟩ := hv
  have hx := B.exec
  have hb := B.bytes
  have hr := B.returns
  have hts : ∀ w ∈ wq, w.before _ s = true := fun w h => atoms_spec (ws := wz yX10_isSlot cX10_isSlot 1 (some .boolean)) B.pre w (List.mem_cons_of_mem _ h)
  have hown : s.vm.findClass RX10 = some m.cls := findClass_of_methodNamed B.named
  have hlocks := B.notSynchronized
  obtain ⟨R, hR⟩ : ∃ R : Room, R = ({ frames := 1, cells := 0, slots := 0, locals := 25 } : Room) := ⟨_, rfl⟩
  rw [show (headSpec (wz yX10_isSlot cX10_isSlot 1 (some .boolean)) { frames := 1, cells := 0, slots := 0, locals := 25 }).room = R from hR.symm]
  refine ti_mz hx hb hr hlocks (fun Q ret => ?_)
  have hl := lv_entry [.int x0] (n := 1) (Nat.le_of_ble_eq_true rfl)
  rw [lg_entry_eq]
  generalize (lg_sl [.int x0] ++ List.replicate (1 - (lg_sl [.int x0]).length) Slot.unset).toArray = ls at hl ⊢
  have hl : lv_has ls 1 [(0, .int x0)] := hl
  have hS : va_S (pW Y []) s.heap s.heap [] := va_S.rf
  refine lv_iload_n hx hb dX10_isSlot_0 rfl (lv_at hl 0 rfl) ?_
  refine lv_i2l hx hb dX10_isSlot_1 rfl ?_
  refine lv_topl (fun v1 e1 => ?_)
  have hv1 : jv v1 (-2147483648) 2147483647 := by rw [e1]; exact jv_i hx0
  have t1 : v1.toInt = x0.toInt := by rw [e1]; exact jv_e _
  refine lv_lconst (v := 0) hx hb dX10_isSlot_2 (by decide) ?_
  have kj0 : (0 : Int64).toInt = 0 := by decide
  refine lv_ldc2 (v := 3) hx hb hown (hts _ kw_485) dX10_isSlot_3 ?_
  have kj3 : (3 : Int64).toInt = 3 := by decide
  refine ti_calli (va_runS (As := [.long v1, .long (0 : Int64), .long (3 : Int64)]) (rest := []) ⟨hx, hb, hml, hown, hts⟩ (t_X10_in_x l hT (jv_w hv1 (by decide)) (jv_w (jv_c (x := (0 : Int64)) (k := 0) (by decide)) (by decide)) (jv_w (jv_c (x := (3 : Int64)) (k := 3) (by decide)) (by decide))) (cwS 3 hts (good_S kw_181 kw_182 kw_5 kw_183) rfl rfl rfl (by decide +kernel) ⟨by rw [hR]; decide, by rw [hR]; decide⟩) (ti_preS hK) rfl rfl hl.1 rfl (lv_room (Nat.le_of_ble_eq_true rfl)) dX10_isSlot_6 ⟨Nat.zero_le _, Nat.zero_le _⟩) hS (pW_sub rfl) (fun v6 H1 locs hB hS _ hk6 => ?_)
  obtain ⟨hH, hv6, hp6⟩ := hB
  rw [hH] at hS ⊢
  exact ret _ _ _ _ _ dX10_isSlot_9 (iv_w hv6 (by decide)) (⟨rfl, iv_w hv6 (by decide), by have b0a := (hx0).1; have b0b := (hx0).2; have b1a := (hv6).1; have b1b := (hv6).2; have b2a := (hv1).1; have b2b := (hv1).2; omega⟩) hS
set_option maxHeartbeats 4000000 in
set_option maxRecDepth 100000 in
theorem t_X10_row_x (l : Launch) {D : va_G} {c0 : Nat → ClassId} {Y : Nat → Option Nat} {ν : Nat → Nat} {H : Heap} (hT : TI D vwCl (tysOf c0) (RTg ν) Y H) {a0 : Nat} (ha0 : Y a0 = some 10) {x1 : Int32} (hx1 : iv x1 (-2147483648) 2147483647) {x2 : Int32} (hx2 : iv x2 (-2147483648) 2147483647) {x3 : Int32} (hx3 : iv x3 (-2147483648) 2147483647) (hνb : ∀ j, j < 4 → ν (6 + j) ≤ 61) (hU : uq Y) : Met l yX10_row (wz yX10_row cX10_row 5 (some .int)) { frames := 2, cells := 0, slots := 0, locals := 45 } (TP D vwCl (tysOf c0) H [.ref a0, .int x1, .int x2, .int x3]) (TQi (fun x H' => (∃ ν' : Nat → Nat, (∀ j, j < 6 → ν' j = ν j) ∧ (∀ j, j < 4 → ν' (6 + j) ≤ 61) ∧ TI D vwCl (tysOf c0) (RTg ν') Y H') ∧ iv x (-3) 0 ∧ (((((0 ≤ x1.toInt ∧ x1.toInt ≤ 3) ∧ (0 ≤ x2.toInt ∧ x2.toInt ≤ 3) ∧ x3.toInt ≤ 60) ∧ 0 ≤ x3.toInt ∧ x.toInt = 0) ∨ (((0 ≤ x1.toInt ∧ x1.toInt ≤ 3) ∧ (0 ≤ x2.toInt ∧ x2.toInt ≤ 3) ∧ x3.toInt ≤ 60) ∧ x3.toInt < 0 ∧ x.toInt = -3) ∨ (¬ ((0 ≤ x1.toInt ∧ x1.toInt ≤ 3) ∧ (0 ≤ x2.toInt ∧ x2.toInt ≤ 3) ∧ x3.toInt ≤ 60) ∧ x.toInt = -2)))) Y [37, 38, 39]) 0 0 (pW Y [37, 38, 39]) := by
  refine Met.ofW (cc := cX10_row) (maxL := 5) (ret := (some .int)) (by decide) rfl ?_
  intro p e s m args below meth c s₁ B hml hv
  obtain ⟨rfl, rfl, hK⟩ := hv
  have hx := B.exec
  have hb := B.bytes
  have hr := B.returns
  have hts : ∀ w ∈ wq, w.before _ s = true := fun w h => atoms_spec (ws := wz yX10_row cX10_row 5 (some .int)) B.pre w (List.mem_cons_of_mem _ h)
  have hown : s.vm.findClass RX10 = some m.cls := findClass_of_methodNamed B.named
  have hlocks := B.notSynchronized
  obtain ⟨R, hR⟩ : ∃ R : Room, R = ({ frames := 2, cells := 0, slots := 0, locals := 45 } : Room) := ⟨_, rfl⟩
  rw [show (headSpec (wz yX10_row cX10_row 5 (some .int)) { frames := 2, cells := 0, slots := 0, locals := 45 }).room = R from hR.symm]
  refine ti_mi hx hb hr hlocks (fun Q ret => ?_)
  have hl := lv_entry [.ref a0, .int x1, .int x2, .int x3] (n := 5) (Nat.le_of_ble_eq_true rfl)
  rw [lg_entry_eq]
  generalize (lg_sl [.ref a0, .int x1, .int x2, .int x3] ++ List.replicate (5 - (lg_sl [.ref a0, .int x1, .int x2, .int x3]).length) Slot.unset).toArray = ls at hl ⊢
  have hl : lv_has ls 5 [(0, .ref a0), (1, .int x1), (2, .int x2), (3, .int x3)] := hl
  refine ti_gen (P := fun H => TI D vwCl (tysOf c0) (RTg ν) Y H) (Y := Y) (ws := [37, 38, 39]) hT (fun H locs hT hS => ?_)
  refine lv_iload_n hx hb dX10_row_0 rfl (lv_at hl 1 rfl) ?_
  refine ti_calli (va_runS (As := [.int x1]) (rest := []) ⟨hx, hb, hml, hown, hts⟩ (t_X10_isSlot_x l hT (iv_w hx1 (by decide))) (cwS 1 hts (good_S kw_816 kw_817 kw_5 kw_818) rfl rfl rfl (by decide +kernel) ⟨by rw [hR]; decide, by rw [hR]; decide⟩) (ti_preS hK) rfl rfl hl.1 rfl (lv_room (Nat.le_of_ble_eq_true rfl)) dX10_row_1 ⟨Nat.zero_le _, Nat.zero_le _⟩) hS (pW_sub rfl) (fun v1 H1 locs hB hS _ hk1 => ?_)
  obtain ⟨hH, hv1, hp1⟩ := hB
  rw [hH] at hS ⊢
  refine lv_if_eq (tgt := 25) hx hb dX10_row_4 (by decide) (fun c4 => ?_) (fun c4 => ?_)
  · skip
    have kl0 : (0 : Int32).toInt = 0 := by decide
    have f4 := i_eq c4
    have hv1_4l : iv v1 0 0 := iv_eql hv1 (iv_c (x := (0 : Int32)) (k := 0) (by decide)) c4 (by decide)
    refine lv_bipush (v := (-2)) hx hb dX10_row_25 (by decide) ?_
    have klm2 : (-2 : Int32).toInt = (-2) := by decide
    exact ret _ _ _ _ _ dX10_row_27 (⟨⟨ν, fun _ _ => rfl, hνb, hT⟩, iv_w (iv_c (x := (-2 : Int32)) (k := (-2)) (by decide)) (by decide), by have b0a := (hx1).1; have b0b := (hx1).2; have b1a := (hx2).1; have b1b := (hx2).2; have b2a := (hx3).1; have b2b := (hx3).2; have b3a := (hv1_4l).1; have b3b := (hv1_4l).2; omega⟩) hS
  · skip
    have kl0 : (0 : Int32).toInt = 0 := by decide
    have f4 := i_ne c4
    have hv1_4l : iv v1 1 1 := iv_nel hv1 (iv_c (x := (0 : Int32)) (k := 0) (by decide)) c4 (by decide)
    have hx1_4p : iv x1 0 3 := by have b0a := (hx1).1; have b0b := (hx1).2; exact ⟨by omega, by omega⟩
    refine lv_iload_n hx hb dX10_row_7 rfl (lv_at hl 2 rfl) ?_
    refine lv_i2l hx hb dX10_row_8 rfl ?_
    refine lv_topl (fun v8 e8 => ?_)
    have hv8 : jv v8 (-2147483648) 2147483647 := by rw [e8]; exact jv_i hx2
    have t8 : v8.toInt = x2.toInt := by rw [e8]; exact jv_e _
    refine lv_lconst (v := 0) hx hb dX10_row_9 (by decide) ?_
    have kj0 : (0 : Int64).toInt = 0 := by decide
    refine lv_ldc2 (v := 3) hx hb hown (hts _ kw_485) dX10_row_10 ?_
    have kj3 : (3 : Int64).toInt = 3 := by decide
    refine ti_calli (va_runS (As := [.long v8, .long (0 : Int64), .long (3 : Int64)]) (rest := []) ⟨hx, hb, hml, hown, hts⟩ (t_X10_in_x l hT (jv_w hv8 (by decide)) (jv_w (jv_c (x := (0 : Int64)) (k := 0) (by decide)) (by decide)) (jv_w (jv_c (x := (3 : Int64)) (k := 3) (by decide)) (by decide))) (cwS 3 hts (good_S kw_181 kw_182 kw_5 kw_183) rfl rfl rfl (by decide +kernel) ⟨by rw [hR]; decide, by rw [hR]; decide⟩) (ti_preS hK) rfl rfl hl.1 rfl (lv_room (Nat.le_of_ble_eq_true rfl)) dX10_row_13 ⟨Nat.zero_le _, Nat.zero_le _⟩) hS (pW_sub rfl) (fun v13 H1 locs hB hS _ hk13 => ?_)
    obtain ⟨hH, hv13, hp13⟩ := hB
    rw [hH] at hS ⊢
    refine lv_if_eq (tgt := 25) hx hb dX10_row_16 (by decide) (fun c16 => ?_) (fun c16 => ?_)
    · skip
      have f16 := i_eq c16
      have hv13_16l : iv v13 0 0 := iv_eql hv13 (iv_c (x := (0 : Int32)) (k := 0) (by decide)) c16 (by decide)
      refine lv_bipush (v := (-2)) hx hb dX10_row_25 (by decide) ?_
      have klm2 : (-2 : Int32).toInt = (-2) := by decide
      exact ret _ _ _ _ _ dX10_row_27 (⟨⟨ν, fun _ _ => rfl, hνb, hT⟩, iv_w (iv_c (x := (-2 : Int32)) (k := (-2)) (by decide)) (by decide), by have b0a := (hx1_4p).1; have b0b := (hx1_4p).2; have b1a := (hx2).1; have b1b := (hx2).2; have b2a := (hx3).1; have b2b := (hx3).2; have b3a := (hv1_4l).1; have b3b := (hv1_4l).2; have b4a := (hv8).1; have b4b := (hv8).2; have b5a := (hv13_16l).1; have b5b := (hv13_16l).2; omega⟩) hS
    · skip
      have f16 := i_ne c16
      have hv13_16l : iv v13 1 1 := iv_nel hv13 (iv_c (x := (0 : Int32)) (k := 0) (by decide)) c16 (by decide)
      have hv8_16p : jv v8 0 3 := by have b0a := (hv8).1; have b0b := (hv8).2; have b1a := ((jv_c (x := (0 : Int64)) (k := 0) (by decide))).1; have b1b := ((jv_c (x := (0 : Int64)) (k := 0) (by decide))).2; have b2a := ((jv_c (x := (3 : Int64)) (k := 3) (by decide))).1; have b2b := ((jv_c (x := (3 : Int64)) (k := 3) (by decide))).2; exact ⟨by omega, by omega⟩
      have hx2_16p : iv x2 0 3 := by have := t8; have b0a := (hv8_16p).1; have b0b := (hv8_16p).2; have b1a := (hx2).1; have b1b := (hx2).2; exact ⟨by omega, by omega⟩
      refine lv_iload_n hx hb dX10_row_19 rfl (lv_at hl 3 rfl) ?_
      refine lv_bipush (v := 60) hx hb dX10_row_20 (by decide) ?_
      refine lv_icmp_le (tgt := 28) hx hb dX10_row_22 (by decide) (fun c22 => ?_) (fun c22 => ?_)
      · skip
        have kl60 : (60 : Int32).toInt = 60 := by decide
        have f22 := i_le c22
        have hx3_22l : iv x3 (-2147483648) 60 := iv_lel hx3 (iv_c (x := (60 : Int32)) (k := 60) (by decide)) c22 (by decide)
        refine lv_iload_n hx hb dX10_row_28 rfl (lv_at hl 3 rfl) ?_
        refine lv_if_ge (tgt := 35) hx hb dX10_row_29 (by decide) (fun c29 => ?_) (fun c29 => ?_)
        · skip
          have f29 := i_le c29
          have hx3_29r : iv x3 0 60 := iv_ler (iv_c (x := (0 : Int32)) (k := 0) (by decide)) hx3_22l c29 (by decide)
          refine lv_aload_n hx hb dX10_row_35 rfl (lv_at hl 0 rfl) ?_
          refine ti_getr hx hb hts inlX10 hown hK hT ha0 rfl rfl rfl 34 (by decide) (hts _ kw_151) (fun _ h9 => h9) rfl dX10_row_36 (fun v36 hv36 hm36 => ?_)
          refine lv_iload_n hx hb dX10_row_39 rfl (lv_at hl 1 rfl) ?_
          refine lv_iload_n hx hb dX10_row_40 rfl (lv_at hl 3 rfl) ?_
          refine xast hx hb (aT0 hK) hT hS hv36 rfl rfl hx1_4p (by decide) dX10_row_41 (fun cA ty f H locs hc hf _ he hS ob => ?_)
          have hT := row_put (n := x3.toNatClampNeg + 1) hU hT hv36 (by have b0a := (hx1_4p).1; have b0b := (hx1_4p).2; have b1a := (hx2_16p).1; have b1b := (hx2_16p).2; have b2a := (hx3_29r).1; have b2b := (hx3_29r).2; have b3a := (hv1_4l).1; have b3b := (hv1_4l).2; have b4a := (hv8_16p).1; have b4b := (hv8_16p).2; have b5a := (hv13_16l).1; have b5b := (hv13_16l).2; show x1.toInt.toNat < 4; omega) hc hf (by have b0a := (hx1_4p).1; have b0b := (hx1_4p).2; have b1a := (hx2_16p).1; have b1b := (hx2_16p).2; have b2a := (hx3_29r).1; have b2b := (hx3_29r).2; have b3a := (hv1_4l).1; have b3b := (hv1_4l).2; have b4a := (hv8_16p).1; have b4b := (hv8_16p).2; have b5a := (hv13_16l).1; have b5b := (hv13_16l).2; show x3.toInt = ((x3.toInt.toNat + 1 : Nat) : Int) - 1; omega) he ob
          refine lv_aload_n hx hb dX10_row_42 rfl (lv_at hl 0 rfl) ?_
          refine ti_getr hx hb hts inlX10 hown hK hT ha0 rfl rfl rfl 35 (by decide) (hts _ kw_152) (fun _ h9 => h9) rfl dX10_row_43 (fun v43 hv43 hm43 => ?_)
          refine lv_iload_n hx hb dX10_row_46 rfl (lv_at hl 1 rfl) ?_
          refine lv_iload_n hx hb dX10_row_47 rfl (lv_at hl 2 rfl) ?_
          refine ti_iast hx hb (aT0 hK) hT hS hv43 rfl rfl hx1_4p (by decide) (fun _ _ _ => ⟨_, _, rfl, by decide, by decide⟩) hx2_16p (fun _ _ => trivial) dX10_row_48 (fun H locs hT hS oq48 he48 hk48 => ?_)
          refine lv_iconst (v := 0) hx hb dX10_row_49 (by decide) ?_
          have J52 : ∀ (n : Nat) (j52_L4 : Int32) (H : Heap) (locs : List Loc) (ls : Array Slot), (60 - j52_L4.toInt).toNat < n → iv j52_L4 0 60 → TI D vwCl (tysOf c0) (RTg (νk ν (6 + x1.toNatClampNeg) (x3.toNatClampNeg + 1))) Y H → va_S (pW Y [37, 38, 39]) s.heap H locs → lv_has ls 5 [(0, .ref a0), (1, .int x1), (2, .int x2), (3, .int x3), (4, .int j52_L4)] → W p l e R s m ([.ref a0, .int x1, .int x2, .int x3] : List Value).toArray below meth c H locs 0 0 Q (F0 m 52 ls []) := by
            intro n
            induction n with
            | zero => intro j52_L4 H locs ls hms; exact absurd hms (Nat.not_lt_zero _)
            | succ n ih52 =>
              intro j52_L4 H locs ls hms52 hj52_L4 hT hS hl
              refine lv_iload hx hb dX10_row_52 (lv_at hl 4 rfl) ?_
              refine lv_bipush (v := 60) hx hb dX10_row_54 (by decide) ?_
              refine lv_icmp_ge (tgt := 78) hx hb dX10_row_56 (by decide) (fun c56 => ?_) (fun c56 => ?_)
              · skip
                have f56 := i_le c56
                have hj52_L4_56r : iv j52_L4 60 60 := iv_ler (iv_c (x := (60 : Int32)) (k := 60) (by decide)) hj52_L4 c56 (by decide)
                refine lv_iconst (v := 0) hx hb dX10_row_78 (by decide) ?_
                exact ret _ _ _ _ _ dX10_row_79 (⟨⟨_, fun j h9 => by show (if j = 6 + x1.toNatClampNeg then _ else ν j) = ν j; rw [if_neg (by omega)], fun j h9 => by show (if 6 + j = 6 + x1.toNatClampNeg then x3.toNatClampNeg + 1 else ν (6 + j)) ≤ 61; by_cases q9 : 6 + j = 6 + x1.toNatClampNeg; (rw [if_pos q9]; have b0a := (hx1_4p).1; have b0b := (hx1_4p).2; have b1a := (hx2_16p).1; have b1b := (hx2_16p).2; have b2a := (hx3_29r).1; have b2b := (hx3_29r).2; have b3a := (hv1_4l).1; have b3b := (hv1_4l).2; have b4a := (hv8_16p).1; have b4b := (hv8_16p).2; have b5a := (hv13_16l).1; have b5b := (hv13_16l).2; have b6a := (hj52_L4_56r).1; have b6b := (hj52_L4_56r).2; show x3.toInt.toNat + 1 ≤ 61; omega); (rw [if_neg q9]; exact hνb j h9), hT⟩, iv_w (iv_c (x := (0 : Int32)) (k := 0) (by decide)) (by decide), by have b0a := (hx1_4p).1; have b0b := (hx1_4p).2; have b1a := (hx2_16p).1; have b1b := (hx2_16p).2; have b2a := (hx3_29r).1; have b2b := (hx3_29r).2; have b3a := (hv1_4l).1; have b3b := (hv1_4l).2; have b4a := (hv8_16p).1; have b4b := (hv8_16p).2; have b5a := (hv13_16l).1; have b5b := (hv13_16l).2; have b6a := (hj52_L4_56r).1; have b6b := (hj52_L4_56r).2; omega⟩) hS
              · skip
                have f56 := i_nle c56
                have hj52_L4_56l : iv j52_L4 0 59 := iv_ltl hj52_L4 (iv_c (x := (60 : Int32)) (k := 60) (by decide)) (Int32.not_le.mp c56) (by decide)
                refine lv_aload_n hx hb dX10_row_59 rfl (lv_at hl 0 rfl) ?_
                refine ti_getr hx hb hts inlX10 hown hK hT ha0 rfl rfl rfl 36 (by decide) (hts _ kw_153) (fun _ h9 => h9) rfl dX10_row_60 (fun v60 hv60 hm60 => ?_)
                refine lv_bipush (v := 60) hx hb dX10_row_63 (by decide) ?_
                refine lv_iload_n hx hb dX10_row_65 rfl (lv_at hl 1 rfl) ?_
                refine lv_imul hx hb dX10_row_66 ?_
                refine lv_topi (fun v66 e66 => ?_)
                have hv66 : iv v66 0 180 := by rw [e66]; exact iv_mul (iv_c (x := (60 : Int32)) (k := 60) (by decide)) hx1_4p (by decide)
                have s66 : v66.toInt = (60 : Int32).toInt * x1.toInt := by rw [e66]; exact iv_mulE (iv_c (x := (60 : Int32)) (k := 60) (by decide)) hx1_4p (by decide)
                have s66 : v66.toInt = 60 * x1.toInt := by rw [s66]; simp only [show (60 : Int32).toInt = 60 from by decide]; try omega
                refine lv_iload hx hb dX10_row_67 (lv_at hl 4 rfl) ?_
                refine lv_iadd hx hb dX10_row_69 ?_
                refine lv_topi (fun v69 e69 => ?_)
                have hv69 : iv v69 0 239 := by rw [e69]; exact iv_w (iv_add hv66 hj52_L4_56l (by decide)) (by decide)
                have s69 : v69.toInt = v66.toInt + j52_L4.toInt := by rw [e69]; exact iv_addE hv66 hj52_L4_56l (by decide)
                refine lv_lconst (v := 0) hx hb dX10_row_70 (by decide) ?_
                refine ti_last hx hb (aT3 hK) hT hS hv60 rfl rfl hv69 (by decide) (fun _ _ _ => rfl)  (fun _ _ => trivial) dX10_row_71 (fun H locs hT hS oq71 he71 hk71 => ?_)
                obtain ⟨v72, e72⟩ : ∃ y : Int32, y = j52_L4 + 1 := ⟨_, rfl⟩
                have hv72 : iv v72 1 60 := by rw [e72]; exact iv_w (iv_add hj52_L4_56l (iv_c (x := (1 : Int32)) (k := 1) (by decide)) (by decide)) (by decide)
                have s72 : v72.toInt = j52_L4.toInt + 1 := by rw [e72, iv_addE hj52_L4_56l (iv_c (x := (1 : Int32)) (k := 1) (by decide)) (by decide)]; rfl
                refine lv_iinc (v := v72) (lv' := [(4, .int v72), (0, .ref a0), (1, .int x1), (2, .int x2), (3, .int x3)]) hx hb dX10_row_72 hl (k := 4) rfl (by rw [e72]; rfl) (by decide) rfl (fun ls hl => ?_)
                refine lv_goto (tgt := 52) hx hb dX10_row_75 (by decide) ?_
                exact ih52 v72 _ _ _ (ms_up hms52 (by have := s72; omega) (iv_w (c := 1) (d := 60) hv72 (by decide)).2) (iv_w hv72 (by decide)) hT hS (lv_sub hl [1, 2, 3, 4, 0] rfl)
          refine lv_istore (lv' := [(4, .int (0 : Int32)), (0, .ref a0), (1, .int x1), (2, .int x2), (3, .int x3)]) hx hb dX10_row_50 hl (by decide) rfl (fun ls hl => ?_)
          exact J52 _ (0 : Int32) _ _ _ (Nat.lt_succ_self _) (iv_w (iv_c (x := (0 : Int32)) (k := 0) (by decide)) (by decide)) hT hS (lv_sub hl [1, 2, 3, 4, 0] rfl)
        · skip
          have f29 := i_nle c29
          have hx3_29l : iv x3 (-2147483648) (-1) := iv_ltl hx3_22l (iv_c (x := (0 : Int32)) (k := 0) (by decide)) (Int32.not_le.mp c29) (by decide)
          refine lv_bipush (v := (-3)) hx hb dX10_row_32 (by decide) ?_
          have klm3 : (-3 : Int32).toInt = (-3) := by decide
          exact ret _ _ _ _ _ dX10_row_34 (⟨⟨ν, fun _ _ => rfl, hνb, hT⟩, iv_w (iv_c (x := (-3 : Int32)) (k := (-3)) (by decide)) (by decide), by have b0a := (hx1_4p).1; have b0b := (hx1_4p).2; have b1a := (hx2_16p).1; have b1b := (hx2_16p).2; have b2a := (hx3_29l).1; have b2b := (hx3_29l).2; have b3a := (hv1_4l).1; have b3b := (hv1_4l).2; have b4a := (hv8_16p).1; have b4b := (hv8_16p).2; have b5a := (hv13_16l).1; have b5b := (hv13_16l).2; omega⟩) hS
      · skip
        have kl60 : (60 : Int32).toInt = 60 := by decide
        have f22 := i_nle c22
        have hx3_22r : iv x3 61 2147483647 := iv_ltr (iv_c (x := (60 : Int32)) (k := 60) (by decide)) hx3 (Int32.not_le.mp c22) (by decide)
        refine lv_bipush (v := (-2)) hx hb dX10_row_25 (by decide) ?_
        have klm2 : (-2 : Int32).toInt = (-2) := by decide
        exact ret _ _ _ _ _ dX10_row_27 (⟨⟨ν, fun _ _ => rfl, hνb, hT⟩, iv_w (iv_c (x := (-2 : Int32)) (k := (-2)) (by decide)) (by decide), by have b0a := (hx1_4p).1; have b0b := (hx1_4p).2; have b1a := (hx2_16p).1; have b1b := (hx2_16p).2; have b2a := (hx3_22r).1; have b2b := (hx3_22r).2; have b3a := (hv1_4l).1; have b3b := (hv1_4l).2; have b4a := (hv8_16p).1; have b4b := (hv8_16p).2; have b5a := (hv13_16l).1; have b5b := (hv13_16l).2; omega⟩) hS
