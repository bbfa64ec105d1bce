set_option maxHeartbeats 4000000 in
set_option maxRecDepth 100000 in
theorem t_X9_isPerson (l : Launch) {D : va_G} {c0 : Nat → ClassId} {Y : Nat → Option Nat} {b : Bool} {H : Heap} (hT : TI D vwCl (tysOf c0) (RT1 b) Y H) {a0 : Nat} (ha0 : Y a0 = some 9) {x1 : Int64} (hx1 : jv x1 (-9223372036854775808) 9223372036854775807) : Met l yX9_isPerson (wz yX9_isPerson cX9_isPerson 3 (some .boolean)) { frames := 0, cells := 0, slots := 0, locals := 0 } (TP D vwCl (tysOf c0) H [.ref a0, .long x1]) (TQi (fun x H' => H' = H ∧ iv x 0 0) Y) 0 0 (pA Y) := by
  refine Met.ofW (cc := cX9_isPerson) (maxL := 3) (ret := (some .boolean)) (by decide) rfl ?_
  intro p e s m args below meth c s₁ B hml hv
  obtain ⟨rfl, rfl, hK⟩ := hv
  have hx := B.exec
  have hb := B.bytes
  have hr := B.returns
  have hts : ∀ w ∈ wq, w.before _ s = true := fun w h => atoms_spec (ws := wz yX9_isPerson cX9_isPerson 3 (some .boolean)) B.pre w (List.mem_cons_of_mem _ h)
  have hown : s.vm.findClass RX9 = some m.cls := findClass_of_methodNamed B.named
  have hlocks := B.notSynchronized
  obtain ⟨R, hR⟩ : ∃ R : Room, R = ({ frames := 0, cells := 0, slots := 0, locals := 0 } : Room) := ⟨_, rfl⟩
  rw [show (headSpec (wz yX9_isPerson cX9_isPerson 3 (some .boolean)) { frames := 0, cells := 0, slots := 0, locals := 0 }).room = R from hR.symm]
  refine ti_mz hx hb hr hlocks (fun Q ret => ?_)
  have hl := lv_entry [.ref a0, .long x1] (n := 3) (Nat.le_of_ble_eq_true rfl)
  rw [lg_entry_eq]
  generalize (lg_sl [.ref a0, .long x1] ++ List.replicate (3 - (lg_sl [.ref a0, .long x1]).length) Slot.unset).toArray = ls at hl ⊢
  have hl : lv_has ls 3 [(0, .ref a0), (1, .long x1)] := hl
  have hS : va_S (pA Y) s.heap s.heap [] := va_S.rf
  refine lv_lload_n hx hb dX9_isPerson_0 rfl (lv_at hl 1 rfl) ?_
  refine lv_lconst (v := 0) hx hb dX9_isPerson_1 (by decide) ?_
  have kj0 : (0 : Int64).toInt = 0 := by decide
  refine W.lcmp hx hb dX9_isPerson_2 ?_
  refine lv_if_lt (tgt := 23) hx hb dX9_isPerson_3 (by decide) (fun c3 => ?_) (fun c3 => ?_)
  · skip
    have kl0 : (0 : Int32).toInt = 0 := by decide
    have f3 := jc_lt c3
    have hx1_3a : jv x1 (-9223372036854775808) (-1) := by have b0a := (hx1).1; have b0b := (hx1).2; have b1a := ((jv_c (x := (0 : Int64)) (k := 0) (by decide))).1; have b1b := ((jv_c (x := (0 : Int64)) (k := 0) (by decide))).2; exact ⟨by omega, by omega⟩
    refine lv_iconst (v := 0) hx hb dX9_isPerson_23 (by decide) ?_
    exact ret _ _ _ _ _ dX9_isPerson_24 (iv_w (iv_c (x := (0 : Int32)) (k := 0) (by decide)) (by decide)) (⟨rfl, iv_w (iv_c (x := (0 : Int32)) (k := 0) (by decide)) (by decide)⟩) hS
  · skip
    have kl0 : (0 : Int32).toInt = 0 := by decide
    have f3 := jc_nlt c3
    have hx1_3a : jv x1 0 9223372036854775807 := by have b0a := (hx1).1; have b0b := (hx1).2; have b1a := ((jv_c (x := (0 : Int64)) (k := 0) (by decide))).1; have b1b := ((jv_c (x := (0 : Int64)) (k := 0) (by decide))).2; exact ⟨by omega, by omega⟩
    refine lv_lload_n hx hb dX9_isPerson_6 rfl (lv_at hl 1 rfl) ?_
    refine lv_aload_n hx hb dX9_isPerson_7 rfl (lv_at hl 0 rfl) ?_
    refine ti_getr hx hb hts inlX9 hown hK hT ha0 rfl rfl 1 (by decide) (hts _ kw_20) (fun _ h9 => h9) rfl dX9_isPerson_8 (fun v8 hv8 => ?_)
    refine ti_geti hx hb hts inlX7 hown hK hT hv8 rfl rfl 1 (by decide) (hts _ kw_480) (fun _ h9 => h9) rfl dX9_isPerson_11 (fun v11 hv11 => ?_)
    refine lv_i2l hx hb dX9_isPerson_14 rfl ?_
    refine lv_topl (fun v14 e14 => ?_)
    have hv14 : jv v14 0 0 := by rw [e14]; exact jv_i hv11
    have t14 : v14.toInt = v11.toInt := by rw [e14]; exact jv_e _
    refine W.lcmp hx hb dX9_isPerson_15 ?_
    refine lv_if_ge (tgt := 23) hx hb dX9_isPerson_16 (by decide) (fun c16 => ?_) (fun c16 => ?_)
    · skip
      have f16 := jc_ge c16
      refine lv_iconst (v := 0) hx hb dX9_isPerson_23 (by decide) ?_
      exact ret _ _ _ _ _ dX9_isPerson_24 (iv_w (iv_c (x := (0 : Int32)) (k := 0) (by decide)) (by decide)) (⟨rfl, iv_w (iv_c (x := (0 : Int32)) (k := 0) (by decide)) (by decide)⟩) hS
    · skip
      have f16 := jc_nge c16
      exact absurd f16 (by have b0a := (hx1_3a).1; have b0b := (hx1_3a).2; have b1a := (hv14).1; have b1b := (hv14).2; omega)
set_option maxHeartbeats 4000000 in
set_option maxRecDepth 100000 in
theorem t_X9_arePair (l : Launch) {D : va_G} {c0 : Nat → ClassId} {Y : Nat → Option Nat} {b : Bool} {H : Heap} (hT : TI D vwCl (tysOf c0) (RT1 b) Y H) {a0 : Nat} (ha0 : Y a0 = some 9) {x1 : Int32} (hx1 : iv x1 (-2147483648) 2147483647) {x2 : Int32} (hx2 : iv x2 (-2147483648) 2147483647) : Met l yX9_arePair (wz yX9_arePair cX9_arePair 3 (some .boolean)) { frames := 1, cells := 0, slots := 0, locals := 22 } (TP D vwCl (tysOf c0) H [.ref a0, .int x1, .int x2]) (TQi (fun x H' => H' = H ∧ iv x 0 0) Y) 0 0 (pA Y) := by
  refine Met.ofW (cc := cX9_arePair) (maxL := 3) (ret := (some .boolean)) (by decide) rfl ?_
  intro p e s m args below meth c s₁ B hml hv
  obtain ⟨rfl, rfl, hK⟩ := hv
  have hx := B.exec
  have hb := B.bytes
  have hr := B.returns
  have hts : ∀ w ∈ wq, w.before _ s = true := fun w h => atoms_spec (ws := wz yX9_arePair cX9_arePair 3 (some .boolean)) B.pre w (List.mem_cons_of_mem _ h)
  have hown : s.vm.findClass RX9 = some m.cls := findClass_of_methodNamed B.named
  have hlocks := B.notSynchronized
  obtain ⟨R, hR⟩ : ∃ R : Room, R = ({ frames := 1, cells := 0, slots := 0, locals := 22 } : Room) := ⟨_, rfl⟩
  rw [show (headSpec (wz yX9_arePair cX9_arePair 3 (some .boolean)) { frames := 1, cells := 0, slots := 0, locals := 22 }).room = R from hR.symm]
  refine ti_mz hx hb hr hlocks (fun Q ret => ?_)
  have hl := lv_entry [.ref a0, .int x1, .int x2] (n := 3) (Nat.le_of_ble_eq_true rfl)
  rw [lg_entry_eq]
  generalize (lg_sl [.ref a0, .int x1, .int x2] ++ List.replicate (3 - (lg_sl [.ref a0, .int x1, .int x2]).length) Slot.unset).toArray = ls at hl ⊢
  have hl : lv_has ls 3 [(0, .ref a0), (1, .int x1), (2, .int x2)] := hl
  have hS : va_S (pA Y) s.heap s.heap [] := va_S.rf
  refine lv_aload_n hx hb dX9_arePair_0 rfl (lv_at hl 0 rfl) ?_
  refine lv_iload_n hx hb dX9_arePair_1 rfl (lv_at hl 1 rfl) ?_
  refine lv_i2l hx hb dX9_arePair_2 rfl ?_
  refine lv_topl (fun v2 e2 => ?_)
  have hv2 : jv v2 (-2147483648) 2147483647 := by rw [e2]; exact jv_i hx1
  have t2 : v2.toInt = x1.toInt := by rw [e2]; exact jv_e _
  refine ti_calli (va_runV (As := [.long v2]) (rest := []) ⟨hx, hb, hml, hown, hts⟩ (t_X9_isPerson l hT ha0 (jv_w hv2 (by decide))) (cwV 1 hts (good_V kw_476 kw_477 kw_478 kw_2 kw_479) rfl rfl rfl (by decide +kernel) ⟨by rw [hR]; decide, by rw [hR]; decide⟩) (ti_preV hK hT ha0 rfl rfl) rfl rfl hl.1 rfl (lv_room (Nat.le_of_ble_eq_true rfl)) dX9_arePair_3 ⟨Nat.zero_le _, Nat.zero_le _⟩) hS (fun _ h => h) (fun v3 H1 locs hB hS _ _ => ?_)
  obtain ⟨hH, hv3⟩ := hB
  rw [hH] at hS ⊢
  refine lv_if_eq (tgt := 27) hx hb dX9_arePair_6 (by decide) (fun c6 => ?_) (fun c6 => ?_)
  · skip
    have kl0 : (0 : Int32).toInt = 0 := by decide
    have f6 := i_eq c6
    refine lv_iconst (v := 0) hx hb dX9_arePair_27 (by decide) ?_
    exact ret _ _ _ _ _ dX9_arePair_28 (iv_w (iv_c (x := (0 : Int32)) (k := 0) (by decide)) (by decide)) (⟨rfl, iv_w (iv_c (x := (0 : Int32)) (k := 0) (by decide)) (by decide)⟩) hS
  · skip
    have kl0 : (0 : Int32).toInt = 0 := by decide
    have f6 := i_ne c6
    exact (iv_no (show iv v3 1 (-1) from iv_nel hv3 (iv_c (x := (0 : Int32)) (k := 0) (by decide)) c6 (by decide)) (by decide)).elim
set_option maxHeartbeats 4000000 in
set_option maxRecDepth 100000 in
theorem t_X9_areDays (l : Launch) {D : va_G} {c0 : Nat → ClassId} {Y : Nat → Option Nat} {b : Bool} {H : Heap} (hT : TI D vwCl (tysOf c0) (RT1 b) Y H) {x0 : Int32} (hx0 : iv x0 (-2147483648) 2147483647) : Met l yX9_areDays (wz yX9_areDays cX9_areDays 1 (some .boolean)) { frames := 0, cells := 0, slots := 0, locals := 0 } (TP D vwCl (tysOf c0) H [.int x0]) (TQi (fun x H' => H' = H ∧ iv x 0 1) Y) 0 0 (pA Y) := by
  refine Met.ofW (cc := cX9_areDays) (maxL := 1) (ret := (some .boolean)) (by decide) rfl ?_
  intro p e s m args below meth c s₁ B hml hv
  obtain ⟨rfl, rfl, hK⟩ := hv
  have hx := B.exec
  have hb := B.bytes
  have hr := B.returns
  have hts : ∀ w ∈ wq, w.before _ s = true := fun w h => atoms_spec (ws := wz yX9_areDays cX9_areDays 1 (some .boolean)) B.pre w (List.mem_cons_of_mem _ h)
  have hown : s.vm.findClass RX9 = some m.cls := findClass_of_methodNamed B.named
  have hlocks := B.notSynchronized
  obtain ⟨R, hR⟩ : ∃ R : Room, R = ({ frames := 0, cells := 0, slots := 0, locals := 0 } : Room) := ⟨_, rfl⟩
  rw [show (headSpec (wz yX9_areDays cX9_areDays 1 (some .boolean)) { frames := 0, cells := 0, slots := 0, locals := 0 }).room = R from hR.symm]
  refine ti_mz hx hb hr hlocks (fun Q ret => ?_)
  have hl := lv_entry [.int x0] (n := 1) (Nat.le_of_ble_eq_true rfl)
  rw [lg_entry_eq]
  generalize (lg_sl [.int x0] ++ List.replicate (1 - (lg_sl [.int x0]).length) Slot.unset).toArray = ls at hl ⊢
  have hl : lv_has ls 1 [(0, .int x0)] := hl
  have hS : va_S (pA Y) s.heap s.heap [] := va_S.rf
  refine lv_iload_n hx hb dX9_areDays_0 rfl (lv_at hl 0 rfl) ?_
  refine lv_iconst (v := 1) hx hb dX9_areDays_1 (by decide) ?_
  refine lv_icmp_lt (tgt := 15) hx hb dX9_areDays_2 (by decide) (fun c2 => ?_) (fun c2 => ?_)
  · skip
    have kl1 : (1 : Int32).toInt = 1 := by decide
    have f2 := i_lt c2
    have hx0_2l : iv x0 (-2147483648) 0 := iv_ltl hx0 (iv_c (x := (1 : Int32)) (k := 1) (by decide)) c2 (by decide)
    refine lv_iconst (v := 0) hx hb dX9_areDays_15 (by decide) ?_
    exact ret _ _ _ _ _ dX9_areDays_16 (iv_w (iv_c (x := (0 : Int32)) (k := 0) (by decide)) (by decide)) (⟨rfl, iv_w (iv_c (x := (0 : Int32)) (k := 0) (by decide)) (by decide)⟩) hS
  · skip
    have kl1 : (1 : Int32).toInt = 1 := by decide
    have f2 := i_nlt c2
    have hx0_2r : iv x0 1 2147483647 := iv_ler (iv_c (x := (1 : Int32)) (k := 1) (by decide)) hx0 (Int32.not_lt.mp c2) (by decide)
    refine lv_iload_n hx hb dX9_areDays_5 rfl (lv_at hl 0 rfl) ?_
    refine lv_bipush (v := 30) hx hb dX9_areDays_6 (by decide) ?_
    refine lv_icmp_gt (tgt := 15) hx hb dX9_areDays_8 (by decide) (fun c8 => ?_) (fun c8 => ?_)
    · skip
      have kl30 : (30 : Int32).toInt = 30 := by decide
      have f8 := i_lt c8
      have hx0_8r : iv x0 31 2147483647 := iv_ltr (iv_c (x := (30 : Int32)) (k := 30) (by decide)) hx0_2r c8 (by decide)
      refine lv_iconst (v := 0) hx hb dX9_areDays_15 (by decide) ?_
      exact ret _ _ _ _ _ dX9_areDays_16 (iv_w (iv_c (x := (0 : Int32)) (k := 0) (by decide)) (by decide)) (⟨rfl, iv_w (iv_c (x := (0 : Int32)) (k := 0) (by decide)) (by decide)⟩) hS
    · skip
      have kl30 : (30 : Int32).toInt = 30 := by decide
      have f8 := i_nlt c8
      have hx0_8l : iv x0 1 30 := iv_lel hx0_2r (iv_c (x := (30 : Int32)) (k := 30) (by decide)) (Int32.not_lt.mp c8) (by decide)
      refine lv_iconst (v := 1) hx hb dX9_areDays_11 (by decide) ?_
      refine lv_goto (tgt := 16) hx hb dX9_areDays_12 (by decide) ?_
      exact ret _ _ _ _ _ dX9_areDays_16 (iv_w (iv_c (x := (1 : Int32)) (k := 1) (by decide)) (by decide)) (⟨rfl, iv_w (iv_c (x := (1 : Int32)) (k := 1) (by decide)) (by decide)⟩) hS
set_option maxHeartbeats 4000000 in
set_option maxRecDepth 100000 in
theorem t_X9_canPass (l : Launch) {D : va_G} {c0 : Nat → ClassId} {Y : Nat → Option Nat} {b : Bool} {H : Heap} (hT : TI D vwCl (tysOf c0) (RT1 b) Y H) {a0 : Nat} (ha0 : Y a0 = some 9) {x1 : Int32} (hx1 : iv x1 (-2147483648) 2147483647) : Met l yX9_canPass (wz yX9_canPass cX9_canPass 2 (some .boolean)) { frames := 1, cells := 0, slots := 0, locals := 20 } (TP D vwCl (tysOf c0) H [.ref a0, .int x1]) (TQi (fun x H' => H' = H ∧ iv x 0 0) Y) 0 0 (pA Y) := by
  refine Met.ofW (cc := cX9_canPass) (maxL := 2) (ret := (some .boolean)) (by decide) rfl ?_
  intro p e s m args below meth c s₁ B hml hv
  obtain ⟨rfl, rfl, hK⟩ := hv
  have hx := B.exec
  have hb := B.bytes
  have hr := B.returns
  have hts : ∀ w ∈ wq, w.before _ s = true := fun w h => atoms_spec (ws := wz yX9_canPass cX9_canPass 2 (some .boolean)) B.pre w (List.mem_cons_of_mem _ h)
  have hown : s.vm.findClass RX9 = some m.cls := findClass_of_methodNamed B.named
  have hlocks := B.notSynchronized
  obtain ⟨R, hR⟩ : ∃ R : Room, R = ({ frames := 1, cells := 0, slots := 0, locals := 20 } : Room) := ⟨_, rfl⟩
  rw [show (headSpec (wz yX9_canPass cX9_canPass 2 (some .boolean)) { frames := 1, cells := 0, slots := 0, locals := 20 }).room = R from hR.symm]
  refine ti_mz hx hb hr hlocks (fun Q ret => ?_)
  have hl := lv_entry [.ref a0, .int x1] (n := 2) (Nat.le_of_ble_eq_true rfl)
  rw [lg_entry_eq]
  generalize (lg_sl [.ref a0, .int x1] ++ List.replicate (2 - (lg_sl [.ref a0, .int x1]).length) Slot.unset).toArray = ls at hl ⊢
  have hl : lv_has ls 2 [(0, .ref a0), (1, .int x1)] := hl
  have hS : va_S (pA Y) s.heap s.heap [] := va_S.rf
  refine lv_iload_n hx hb dX9_canPass_0 rfl (lv_at hl 1 rfl) ?_
  refine ti_calli (va_runS (As := [.int x1]) (rest := []) ⟨hx, hb, hml, hown, hts⟩ (t_X9_areDays l hT (iv_w hx1 (by decide))) (cwS 1 hts (good_S kw_837 kw_838 kw_2 kw_839) rfl rfl rfl (by decide +kernel) ⟨by rw [hR]; decide, by rw [hR]; decide⟩) (ti_preS hK) rfl rfl hl.1 rfl (lv_room (Nat.le_of_ble_eq_true rfl)) dX9_canPass_1 ⟨Nat.zero_le _, Nat.zero_le _⟩) hS (fun _ h => h) (fun v1 H1 locs hB hS _ _ => ?_)
  obtain ⟨hH, hv1⟩ := hB
  rw [hH] at hS ⊢
  refine lv_if_eq (tgt := 21) hx hb dX9_canPass_4 (by decide) (fun c4 => ?_) (fun c4 => ?_)
  · skip
    have kl0 : (0 : Int32).toInt = 0 := by decide
    have f4 := i_eq c4
    have hv1_4l : iv v1 0 0 := iv_eql hv1 (iv_c (x := (0 : Int32)) (k := 0) (by decide)) c4 (by decide)
    refine lv_iconst (v := 0) hx hb dX9_canPass_21 (by decide) ?_
    exact ret _ _ _ _ _ dX9_canPass_22 (iv_w (iv_c (x := (0 : Int32)) (k := 0) (by decide)) (by decide)) (⟨rfl, iv_w (iv_c (x := (0 : Int32)) (k := 0) (by decide)) (by decide)⟩) hS
  · skip
    have kl0 : (0 : Int32).toInt = 0 := by decide
    have f4 := i_ne c4
    have hv1_4l : iv v1 1 1 := iv_nel hv1 (iv_c (x := (0 : Int32)) (k := 0) (by decide)) c4 (by decide)
    refine lv_aload_n hx hb dX9_canPass_7 rfl (lv_at hl 0 rfl) ?_
    refine ti_getr hx hb hts inlX9 hown hK hT ha0 rfl rfl 1 (by decide) (hts _ kw_20) (fun _ h9 => h9) rfl dX9_canPass_8 (fun v8 hv8 => ?_)
    refine ti_geti hx hb hts inlX7 hown hK hT hv8 rfl rfl 1 (by decide) (hts _ kw_480) (fun _ h9 => h9) rfl dX9_canPass_11 (fun v11 hv11 => ?_)
    refine lv_if_le (tgt := 21) hx hb dX9_canPass_14 (by decide) (fun c14 => ?_) (fun c14 => ?_)
    · skip
      have f14 := i_le c14
      refine lv_iconst (v := 0) hx hb dX9_canPass_21 (by decide) ?_
      exact ret _ _ _ _ _ dX9_canPass_22 (iv_w (iv_c (x := (0 : Int32)) (k := 0) (by decide)) (by decide)) (⟨rfl, iv_w (iv_c (x := (0 : Int32)) (k := 0) (by decide)) (by decide)⟩) hS
    · skip
      have f14 := i_nle c14
      exact (iv_no (show iv (0 : Int32) 0 (-1) from iv_ltl (iv_c (x := (0 : Int32)) (k := 0) (by decide)) hv11 (Int32.not_le.mp c14) (by decide)) (by decide)).elim
set_option maxHeartbeats 4000000 in
set_option maxRecDepth 100000 in
theorem t_X9_isWay (l : Launch) {D : va_G} {c0 : Nat → ClassId} {Y : Nat → Option Nat} {b : Bool} {H : Heap} (hT : TI D vwCl (tysOf c0) (RT1 b) Y H) {x0 : Int64} (hx0 : jv x0 (-9223372036854775808) 9223372036854775807) : Met l yX9_isWay (wz yX9_isWay cX9_isWay 2 (some .boolean)) { frames := 0, cells := 0, slots := 0, locals := 0 } (TP D vwCl (tysOf c0) H [.long x0]) (TQi (fun x H' => H' = H ∧ iv x 0 1) Y) 0 0 (pA Y) := by
  refine Met.ofW (cc := cX9_isWay) (maxL := 2) (ret := (some .boolean)) (by decide) rfl ?_
  intro p e s m args below meth c s₁ B hml hv
  obtain ⟨rfl, rfl, hK⟩ := hv
  have hx := B.exec
  have hb := B.bytes
  have hr := B.returns
  have hts : ∀ w ∈ wq, w.before _ s = true := fun w h => atoms_spec (ws := wz yX9_isWay cX9_isWay 2 (some .boolean)) B.pre w (List.mem_cons_of_mem _ h)
  have hown : s.vm.findClass RX9 = some m.cls := findClass_of_methodNamed B.named
  have hlocks := B.notSynchronized
  obtain ⟨R, hR⟩ : ∃ R : Room, R = ({ frames := 0, cells := 0, slots := 0, locals := 0 } : Room) := ⟨_, rfl⟩
  rw [show (headSpec (wz yX9_isWay cX9_isWay 2 (some .boolean)) { frames := 0, cells := 0, slots := 0, locals := 0 }).room = R from hR.symm]
  refine ti_mz hx hb hr hlocks (fun Q ret => ?_)
  have hl := lv_entry [.long x0] (n := 2) (Nat.le_of_ble_eq_true rfl)
  rw [lg_entry_eq]
  generalize (lg_sl [.long x0] ++ List.replicate (2 - (lg_sl [.long x0]).length) Slot.unset).toArray = ls at hl ⊢
  have hl : lv_has ls 2 [(0, .long x0)] := hl
  have hS : va_S (pA Y) s.heap s.heap [] := va_S.rf
  refine lv_lload_n hx hb dX9_isWay_0 rfl (lv_at hl 0 rfl) ?_
  refine lv_lconst (v := 0) hx hb dX9_isWay_1 (by decide) ?_
  have kj0 : (0 : Int64).toInt = 0 := by decide
  refine W.lcmp hx hb dX9_isWay_2 ?_
  refine lv_if_lt (tgt := 18) hx hb dX9_isWay_3 (by decide) (fun c3 => ?_) (fun c3 => ?_)
  · skip
    have kl0 : (0 : Int32).toInt = 0 := by decide
    have f3 := jc_lt c3
    have hx0_3a : jv x0 (-9223372036854775808) (-1) := by have b0a := (hx0).1; have b0b := (hx0).2; have b1a := ((jv_c (x := (0 : Int64)) (k := 0) (by decide))).1; have b1b := ((jv_c (x := (0 : Int64)) (k := 0) (by decide))).2; exact ⟨by omega, by omega⟩
    refine lv_iconst (v := 0) hx hb dX9_isWay_18 (by decide) ?_
    exact ret _ _ _ _ _ dX9_isWay_19 (iv_w (iv_c (x := (0 : Int32)) (k := 0) (by decide)) (by decide)) (⟨rfl, iv_w (iv_c (x := (0 : Int32)) (k := 0) (by decide)) (by decide)⟩) hS
  · skip
    have kl0 : (0 : Int32).toInt = 0 := by decide
    have f3 := jc_nlt c3
    have hx0_3a : jv x0 0 9223372036854775807 := by have b0a := (hx0).1; have b0b := (hx0).2; have b1a := ((jv_c (x := (0 : Int64)) (k := 0) (by decide))).1; have b1b := ((jv_c (x := (0 : Int64)) (k := 0) (by decide))).2; exact ⟨by omega, by omega⟩
    refine lv_lload_n hx hb dX9_isWay_6 rfl (lv_at hl 0 rfl) ?_
    refine lv_ldc2 (v := 6) hx hb hown (hts _ kw_1114) dX9_isWay_7 ?_
    have kj6 : (6 : Int64).toInt = 6 := by decide
    refine W.lcmp hx hb dX9_isWay_10 ?_
    refine lv_if_ge (tgt := 18) hx hb dX9_isWay_11 (by decide) (fun c11 => ?_) (fun c11 => ?_)
    · skip
      have f11 := jc_ge c11
      have hx0_11a : jv x0 6 9223372036854775807 := by have b0a := (hx0_3a).1; have b0b := (hx0_3a).2; have b1a := ((jv_c (x := (6 : Int64)) (k := 6) (by decide))).1; have b1b := ((jv_c (x := (6 : Int64)) (k := 6) (by decide))).2; exact ⟨by omega, by omega⟩
      refine lv_iconst (v := 0) hx hb dX9_isWay_18 (by decide) ?_
      exact ret _ _ _ _ _ dX9_isWay_19 (iv_w (iv_c (x := (0 : Int32)) (k := 0) (by decide)) (by decide)) (⟨rfl, iv_w (iv_c (x := (0 : Int32)) (k := 0) (by decide)) (by decide)⟩) hS
    · skip
      have f11 := jc_nge c11
      have hx0_11a : jv x0 0 5 := by have b0a := (hx0_3a).1; have b0b := (hx0_3a).2; have b1a := ((jv_c (x := (6 : Int64)) (k := 6) (by decide))).1; have b1b := ((jv_c (x := (6 : Int64)) (k := 6) (by decide))).2; exact ⟨by omega, by omega⟩
      refine lv_iconst (v := 1) hx hb dX9_isWay_14 (by decide) ?_
      refine lv_goto (tgt := 19) hx hb dX9_isWay_15 (by decide) ?_
      exact ret _ _ _ _ _ dX9_isWay_19 (iv_w (iv_c (x := (1 : Int32)) (k := 1) (by decide)) (by decide)) (⟨rfl, iv_w (iv_c (x := (1 : Int32)) (k := 1) (by decide)) (by decide)⟩) hS
set_option maxHeartbeats 4000000 in
set_option maxRecDepth 100000 in
theorem t_X9_isSlot (l : Launch) {D : va_G} {c0 : Nat → ClassId} {Y : Nat → Option Nat} {b : Bool} {H : Heap} (hT : TI D vwCl (tysOf c0) (RT1 b) Y H) {x0 : Int32} (hx0 : iv x0 (-2147483648) 2147483647) : Met l yX9_isSlot (wz yX9_isSlot cX9_isSlot 1 (some .boolean)) { frames := 0, cells := 0, slots := 0, locals := 0 } (TP D vwCl (tysOf c0) H [.int x0]) (TQi (fun x H' => H' = H ∧ iv x 0 1 ∧ ((x.toInt = 1 ∧ 0 ≤ x0.toInt ∧ x0.toInt ≤ 3) ∨ (x.toInt = 0 ∧ (x0.toInt < 0 ∨ 3 < x0.toInt)))) Y) 0 0 (pA Y) := by
  refine Met.ofW (cc := cX9_isSlot) (maxL := 1) (ret := (some .boolean)) (by decide) rfl ?_
  intro p e s m args below meth c s₁ B hml hv
  obtain ⟨rfl, rfl, hK⟩ := hv
  have hx := B.exec
  have hb := B.bytes
  have hr := B.returns
  have hts : ∀ w ∈ wq, w.before _ s = true := fun w h => atoms_spec (ws := wz yX9_isSlot cX9_isSlot 1 (some .boolean)) B.pre w (List.mem_cons_of_mem _ h)
  have hown : s.vm.findClass RX9 = some m.cls := findClass_of_methodNamed B.named
  have hlocks := B.notSynchronized
  obtain ⟨R, hR⟩ : ∃ R : Room, R = ({ frames := 0, cells := 0, slots := 0, locals := 0 } : Room) := ⟨_, rfl⟩
  rw [show (headSpec (wz yX9_isSlot cX9_isSlot 1 (some .boolean)) { frames := 0, cells := 0, slots := 0, locals := 0 }).room = R from hR.symm]
  refine ti_mz hx hb hr hlocks (fun Q ret => ?_)
  have hl := lv_entry [.int x0] (n := 1) (Nat.le_of_ble_eq_true rfl)
  rw [lg_entry_eq]
  generalize (lg_sl [.int x0] ++ List.replicate (1 - (lg_sl [.int x0]).length) Slot.unset).toArray = ls at hl ⊢
  have hl : lv_has ls 1 [(0, .int x0)] := hl
  have hS : va_S (pA Y) s.heap s.heap [] := va_S.rf
  refine lv_iload_n hx hb dX9_isSlot_0 rfl (lv_at hl 0 rfl) ?_
  refine lv_if_lt (tgt := 13) hx hb dX9_isSlot_1 (by decide) (fun c1 => ?_) (fun c1 => ?_)
  · skip
    have kl0 : (0 : Int32).toInt = 0 := by decide
    have f1 := i_lt c1
    have hx0_1l : iv x0 (-2147483648) (-1) := iv_ltl hx0 (iv_c (x := (0 : Int32)) (k := 0) (by decide)) c1 (by decide)
    refine lv_iconst (v := 0) hx hb dX9_isSlot_13 (by decide) ?_
    exact ret _ _ _ _ _ dX9_isSlot_14 (iv_w (iv_c (x := (0 : Int32)) (k := 0) (by decide)) (by decide)) (⟨rfl, iv_w (iv_c (x := (0 : Int32)) (k := 0) (by decide)) (by decide), by have b0a := (hx0_1l).1; have b0b := (hx0_1l).2; omega⟩) hS
  · skip
    have kl0 : (0 : Int32).toInt = 0 := by decide
    have f1 := i_nlt c1
    have hx0_1r : iv x0 0 2147483647 := iv_ler (iv_c (x := (0 : Int32)) (k := 0) (by decide)) hx0 (Int32.not_lt.mp c1) (by decide)
    refine lv_iload_n hx hb dX9_isSlot_4 rfl (lv_at hl 0 rfl) ?_
    refine lv_iconst (v := 4) hx hb dX9_isSlot_5 (by decide) ?_
    refine lv_icmp_ge (tgt := 13) hx hb dX9_isSlot_6 (by decide) (fun c6 => ?_) (fun c6 => ?_)
    · skip
      have kl4 : (4 : Int32).toInt = 4 := by decide
      have f6 := i_le c6
      have hx0_6r : iv x0 4 2147483647 := iv_ler (iv_c (x := (4 : Int32)) (k := 4) (by decide)) hx0_1r c6 (by decide)
      refine lv_iconst (v := 0) hx hb dX9_isSlot_13 (by decide) ?_
      exact ret _ _ _ _ _ dX9_isSlot_14 (iv_w (iv_c (x := (0 : Int32)) (k := 0) (by decide)) (by decide)) (⟨rfl, iv_w (iv_c (x := (0 : Int32)) (k := 0) (by decide)) (by decide), by have b0a := (hx0_6r).1; have b0b := (hx0_6r).2; omega⟩) hS
    · skip
      have kl4 : (4 : Int32).toInt = 4 := by decide
      have f6 := i_nle c6
      have hx0_6l : iv x0 0 3 := iv_ltl hx0_1r (iv_c (x := (4 : Int32)) (k := 4) (by decide)) (Int32.not_le.mp c6) (by decide)
      refine lv_iconst (v := 1) hx hb dX9_isSlot_9 (by decide) ?_
      refine lv_goto (tgt := 14) hx hb dX9_isSlot_10 (by decide) ?_
      have kl1 : (1 : Int32).toInt = 1 := by decide
      exact ret _ _ _ _ _ dX9_isSlot_14 (iv_w (iv_c (x := (1 : Int32)) (k := 1) (by decide)) (by decide)) (⟨rfl, iv_w (iv_c (x := (1 : Int32)) (k := 1) (by decide)) (by decide), by have b0a := (hx0_6l).1; have b0b := (hx0_6l).2; omega⟩) hS
set_option maxHeartbeats 4000000 in
set_option maxRecDepth 100000 in
theorem t_X9_canHide (l : Launch) {D : va_G} {c0 : Nat → ClassId} {Y : Nat → Option Nat} {b : Bool} {H : Heap} (hT : TI D vwCl (tysOf c0) (RT1 b) Y H) {a0 : Nat} (ha0 : Y a0 = some 9) {x1 : Int32} (hx1 : iv x1 (-2147483648) 2147483647) {x2 : Int32} (hx2 : iv x2 (-2147483648) 2147483647) : Met l yX9_canHide (wz yX9_canHide cX9_canHide 3 (some .boolean)) { frames := 1, cells := 0, slots := 0, locals := 22 } (TP D vwCl (tysOf c0) H [.ref a0, .int x1, .int x2]) (TQi (fun x H' => H' = H ∧ iv x 0 0) Y) 0 0 (pA Y) := by
  refine Met.ofW (cc := cX9_canHide) (maxL := 3) (ret := (some .boolean)) (by decide) rfl ?_
  intro p e s m args below meth c s₁ B hml hv
  obtain ⟨rfl, rfl, hK⟩ := hv
  have hx := B.exec
  have hb := B.bytes
  have hr := B.returns
  have hts : ∀ w ∈ wq, w.before _ s = true := fun w h => atoms_spec (ws := wz yX9_canHide cX9_canHide 3 (some .boolean)) B.pre w (List.mem_cons_of_mem _ h)
  have hown : s.vm.findClass RX9 = some m.cls := findClass_of_methodNamed B.named
  have hlocks := B.notSynchronized
  obtain ⟨R, hR⟩ : ∃ R : Room, R = ({ frames := 1, cells := 0, slots := 0, locals := 22 } : Room) := ⟨_, rfl⟩
  rw [show (headSpec (wz yX9_canHide cX9_canHide 3 (some .boolean)) { frames := 1, cells := 0, slots := 0, locals := 22 }).room = R from hR.symm]
  refine ti_mz hx hb hr hlocks (fun Q ret => ?_)
  have hl := lv_entry [.ref a0, .int x1, .int x2] (n := 3) (Nat.le_of_ble_eq_true rfl)
  rw [lg_entry_eq]
  generalize (lg_sl [.ref a0, .int x1, .int x2] ++ List.replicate (3 - (lg_sl [.ref a0, .int x1, .int x2]).length) Slot.unset).toArray = ls at hl ⊢
  have hl : lv_has ls 3 [(0, .ref a0), (1, .int x1), (2, .int x2)] := hl
  have hS : va_S (pA Y) s.heap s.heap [] := va_S.rf
  refine lv_aload_n hx hb dX9_canHide_0 rfl (lv_at hl 0 rfl) ?_
  refine lv_iload_n hx hb dX9_canHide_1 rfl (lv_at hl 1 rfl) ?_
  refine lv_i2l hx hb dX9_canHide_2 rfl ?_
  refine lv_topl (fun v2 e2 => ?_)
  have hv2 : jv v2 (-2147483648) 2147483647 := by rw [e2]; exact jv_i hx1
  have t2 : v2.toInt = x1.toInt := by rw [e2]; exact jv_e _
  refine ti_calli (va_runV (As := [.long v2]) (rest := []) ⟨hx, hb, hml, hown, hts⟩ (t_X9_isPerson l hT ha0 (jv_w hv2 (by decide))) (cwV 1 hts (good_V kw_476 kw_477 kw_478 kw_2 kw_479) rfl rfl rfl (by decide +kernel) ⟨by rw [hR]; decide, by rw [hR]; decide⟩) (ti_preV hK hT ha0 rfl rfl) rfl rfl hl.1 rfl (lv_room (Nat.le_of_ble_eq_true rfl)) dX9_canHide_3 ⟨Nat.zero_le _, Nat.zero_le _⟩) hS (fun _ h => h) (fun v3 H1 locs hB hS _ _ => ?_)
  obtain ⟨hH, hv3⟩ := hB
  rw [hH] at hS ⊢
  refine lv_if_eq (tgt := 33) hx hb dX9_canHide_6 (by decide) (fun c6 => ?_) (fun c6 => ?_)
  · skip
    have kl0 : (0 : Int32).toInt = 0 := by decide
    have f6 := i_eq c6
    refine lv_iconst (v := 0) hx hb dX9_canHide_33 (by decide) ?_
    exact ret _ _ _ _ _ dX9_canHide_34 (iv_w (iv_c (x := (0 : Int32)) (k := 0) (by decide)) (by decide)) (⟨rfl, iv_w (iv_c (x := (0 : Int32)) (k := 0) (by decide)) (by decide)⟩) hS
  · skip
    have kl0 : (0 : Int32).toInt = 0 := by decide
    have f6 := i_ne c6
    exact (iv_no (show iv v3 1 (-1) from iv_nel hv3 (iv_c (x := (0 : Int32)) (k := 0) (by decide)) c6 (by decide)) (by decide)).elim
set_option maxHeartbeats 4000000 in
set_option maxRecDepth 100000 in
theorem t_X9_whyNot (l : Launch) {D : va_G} {c0 : Nat → ClassId} {Y : Nat → Option Nat} {b : Bool} {H : Heap} (hT : TI D vwCl (tysOf c0) (RT1 b) Y H) {a0 : Nat} (ha0 : Y a0 = some 9) {a1 : Nat} (ha1 : Y a1 = some 7) {x2 : Int64} (hx2 : jv x2 (-9223372036854775808) 9223372036854775807) {x3 : Int64} (hx3 : jv x3 (-9223372036854775808) 9223372036854775807) {x4 : Int64} (hx4 : jv x4 (-9223372036854775808) 9223372036854775807) {x5 : Int64} (hx5 : jv x5 (-9223372036854775808) 9223372036854775807) {x6 : Int64} (hx6 : jv x6 (-9223372036854775808) 9223372036854775807) : Met l yX9_whyNot (wz yX9_whyNot cX9_whyNot 13 (some .int)) { frames := 1, cells := 0, slots := 0, locals := 22 } (TP D vwCl (tysOf c0) H [.ref a0, .ref a1, .long x2, .long x3, .long x4, .long x5, .long x6]) (TQi (fun x H' => H' = H ∧ iv x (-2) (-2)) Y) 0 0 (pA Y) := by
  refine Met.ofW (cc := cX9_whyNot) (maxL := 13) (ret := (some .int)) (by decide) rfl ?_
  intro p e s m args below meth c s₁ B hml hv
  obtain ⟨rfl, rfl, hK⟩ := hv
  have hx := B.exec
  have hb := B.bytes
  have hr := B.returns
  have hts : ∀ w ∈ wq, w.before _ s = true := fun w h => atoms_spec (ws := wz yX9_whyNot cX9_whyNot 13 (some .int)) B.pre w (List.mem_cons_of_mem _ h)
  have hown : s.vm.findClass RX9 = some m.cls := findClass_of_methodNamed B.named
  have hlocks := B.notSynchronized
  obtain ⟨R, hR⟩ : ∃ R : Room, R = ({ frames := 1, cells := 0, slots := 0, locals := 22 } : Room) := ⟨_, rfl⟩
  rw [show (headSpec (wz yX9_whyNot cX9_whyNot 13 (some .int)) { frames := 1, cells := 0, slots := 0, locals := 22 }).room = R from hR.symm]
  refine ti_mi hx hb hr hlocks (fun Q ret => ?_)
  have hl := lv_entry [.ref a0, .ref a1, .long x2, .long x3, .long x4, .long x5, .long x6] (n := 13) (Nat.le_of_ble_eq_true rfl)
  rw [lg_entry_eq]
  generalize (lg_sl [.ref a0, .ref a1, .long x2, .long x3, .long x4, .long x5, .long x6] ++ List.replicate (13 - (lg_sl [.ref a0, .ref a1, .long x2, .long x3, .long x4, .long x5, .long x6]).length) Slot.unset).toArray = ls at hl ⊢
  have hl : lv_has ls 13 [(0, .ref a0), (1, .ref a1), (2, .long x2), (4, .long x3), (6, .long x4), (8, .long x5), (10, .long x6)] := hl
  have hS : va_S (pA Y) s.heap s.heap [] := va_S.rf
  refine lv_aload_n hx hb dX9_whyNot_0 rfl (lv_at hl 0 rfl) ?_
  refine lv_lload_n hx hb dX9_whyNot_1 rfl (lv_at hl 2 rfl) ?_
  refine ti_calli (va_runV (As := [.long x2]) (rest := []) ⟨hx, hb, hml, hown, hts⟩ (t_X9_isPerson l hT ha0 hx2) (cwV 1 hts (good_V kw_476 kw_477 kw_478 kw_2 kw_479) rfl rfl rfl (by decide +kernel) ⟨by rw [hR]; decide, by rw [hR]; decide⟩) (ti_preV hK hT ha0 rfl rfl) rfl rfl hl.1 rfl (lv_room (Nat.le_of_ble_eq_true rfl)) dX9_whyNot_2 ⟨Nat.zero_le _, Nat.zero_le _⟩) hS (fun _ h => h) (fun v2 H1 locs hB hS _ _ => ?_)
  obtain ⟨hH, hv2⟩ := hB
  rw [hH] at hS ⊢
  refine lv_if_eq (tgt := 36) hx hb dX9_whyNot_5 (by decide) (fun c5 => ?_) (fun c5 => ?_)
  · skip
    have kl0 : (0 : Int32).toInt = 0 := by decide
    have f5 := i_eq c5
    refine lv_bipush (v := (-2)) hx hb dX9_whyNot_36 (by decide) ?_
    exact ret _ _ _ _ _ dX9_whyNot_38 (⟨rfl, iv_w (iv_c (x := (-2 : Int32)) (k := (-2)) (by decide)) (by decide)⟩) hS
  · skip
    have kl0 : (0 : Int32).toInt = 0 := by decide
    have f5 := i_ne c5
    exact (iv_no (show iv v2 1 (-1) from iv_nel hv2 (iv_c (x := (0 : Int32)) (k := 0) (by decide)) c5 (by decide)) (by decide)).elim
set_option maxHeartbeats 4000000 in
set_option maxRecDepth 100000 in
theorem t_X9_slotsWithRow (l : Launch) {D : va_G} {c0 : Nat → ClassId} {Y : Nat → Option Nat} {H : Heap} (hT : TI D vwCl (tysOf c0) (RT1 false) Y H) {a0 : Nat} (ha0 : Y a0 = some 9) : Met l yX9_slotsWithRow (wz yX9_slotsWithRow cX9_slotsWithRow 3 (some .int)) { frames := 0, cells := 0, slots := 0, locals := 0 } (TP D vwCl (tysOf c0) H [.ref a0]) (TQi (fun x H' => H' = H ∧ iv x 0 0) Y) 0 0 (pA Y) := by
  refine Met.ofW (cc := cX9_slotsWithRow) (maxL := 3) (ret := (some .int)) (by decide) rfl ?_
  intro p e s m args below meth c s₁ B hml hv
  obtain ⟨rfl, rfl, hK⟩ := hv
  have hx := B.exec
  have hb := B.bytes
  have hr := B.returns
  have hts : ∀ w ∈ wq, w.before _ s = true := fun w h => atoms_spec (ws := wz yX9_slotsWithRow cX9_slotsWithRow 3 (some .int)) B.pre w (List.mem_cons_of_mem _ h)
  have hown : s.vm.findClass RX9 = some m.cls := findClass_of_methodNamed B.named
  have hlocks := B.notSynchronized
  obtain ⟨R, hR⟩ : ∃ R : Room, R = ({ frames := 0, cells := 0, slots := 0, locals := 0 } : Room) := ⟨_, rfl⟩
  rw [show (headSpec (wz yX9_slotsWithRow cX9_slotsWithRow 3 (some .int)) { frames := 0, cells := 0, slots := 0, locals := 0 }).room = R from hR.symm]
  refine ti_mi hx hb hr hlocks (fun Q ret => ?_)
  have hl := lv_entry [.ref a0] (n := 3) (Nat.le_of_ble_eq_true rfl)
  rw [lg_entry_eq]
  generalize (lg_sl [.ref a0] ++ List.replicate (3 - (lg_sl [.ref a0]).length) Slot.unset).toArray = ls at hl ⊢
  have hl : lv_has ls 3 [(0, .ref a0)] := hl
  have hS : va_S (pA Y) s.heap s.heap [] := va_S.rf
  refine lv_iconst (v := 0) hx hb dX9_slotsWithRow_0 (by decide) ?_
  refine lv_istore_n (lv' := [(1, .int (0 : Int32)), (0, .ref a0)]) hx hb dX9_slotsWithRow_1 rfl hl (by decide) rfl (fun ls hl => ?_)
  refine lv_iconst (v := 0) hx hb dX9_slotsWithRow_2 (by decide) ?_
  have J4 : ∀ (n : Nat) (j4_L1 : Int32) (j4_L2 : Int32) (locs : List Loc) (ls : Array Slot), (4 - j4_L2.toInt).toNat < n → iv j4_L1 0 0 → iv j4_L2 0 4 → va_S (pA Y) s.heap s.heap locs → lv_has ls 3 [(0, .ref a0), (1, .int j4_L1), (2, .int j4_L2)] → W p l e R s m ([.ref a0] : List Value).toArray below meth c s.heap locs 0 0 Q (F0 m 4 ls []) := by
    intro n
    induction n with
    | zero => intro j4_L1 j4_L2 locs ls hm; exact absurd hm (Nat.not_lt_zero _)
    | succ n ih =>
      intro j4_L1 j4_L2 locs ls hm hj4_L1 hj4_L2 hS hl
      refine lv_iload_n hx hb dX9_slotsWithRow_4 rfl (lv_at hl 2 rfl) ?_
      refine lv_iconst (v := 4) hx hb dX9_slotsWithRow_5 (by decide) ?_
      refine lv_icmp_ge (tgt := 35) hx hb dX9_slotsWithRow_6 (by decide) (fun c6 => ?_) (fun c6 => ?_)
      · skip
        have kl4 : (4 : Int32).toInt = 4 := by decide
        have f6 := i_le c6
        have hj4_L2_6r : iv j4_L2 4 4 := iv_ler (iv_c (x := (4 : Int32)) (k := 4) (by decide)) hj4_L2 c6 (by decide)
        refine lv_iload_n hx hb dX9_slotsWithRow_35 rfl (lv_at hl 1 rfl) ?_
        exact ret _ _ _ _ _ dX9_slotsWithRow_36 (⟨rfl, iv_w hj4_L1 (by decide)⟩) hS
      · skip
        have kl4 : (4 : Int32).toInt = 4 := by decide
        have f6 := i_nle c6
        have hj4_L2_6l : iv j4_L2 0 3 := iv_ltl hj4_L2 (iv_c (x := (4 : Int32)) (k := 4) (by decide)) (Int32.not_le.mp c6) (by decide)
        refine lv_iload_n hx hb dX9_slotsWithRow_9 rfl (lv_at hl 1 rfl) ?_
        refine lv_aload_n hx hb dX9_slotsWithRow_10 rfl (lv_at hl 0 rfl) ?_
        refine ti_getr hx hb hts inlX9 hown hK hT ha0 rfl rfl 5 (by decide) (hts _ kw_26) (fun _ h9 => h9) rfl dX9_slotsWithRow_11 (fun v11 hv11 => ?_)
        refine lv_iload_n hx hb dX9_slotsWithRow_14 rfl (lv_at hl 2 rfl) ?_
        refine ti_aald hx hb (aT5 hK) hT hv11 rfl hj4_L2_6l (by decide) (fun _ _ _ => rfl) dX9_slotsWithRow_15 (fun v15 hv15 => ?_)
        refine ti_geti hx hb hts inlX5 hown hK hT hv15 rfl rfl 0 (by decide) (hts _ kw_799) (fun _ h9 => h9) rfl dX9_slotsWithRow_16 (fun v16 hv16 => ?_)
        have J27 : ∀  (locs : List Loc) (ls : Array Slot), va_S (pA Y) s.heap s.heap locs → lv_has ls 3 [(0, .ref a0), (1, .int j4_L1), (2, .int j4_L2)] → W p l e R s m ([.ref a0] : List Value).toArray below meth c s.heap locs 0 0 Q (F0 m 27 ls [.int (0 : Int32), .int j4_L1]) := by
          intro  locs ls  hS hl
          refine lv_iadd hx hb dX9_slotsWithRow_27 ?_
          refine lv_topi (fun v27 e27 => ?_)
          have hv27 : iv v27 0 0 := by rw [e27]; exact iv_w (iv_add hj4_L1 (iv_c (x := (0 : Int32)) (k := 0) (by decide)) (by decide)) (by decide)
          have s27 : v27.toInt = j4_L1.toInt + 0 := by rw [e27, iv_addE hj4_L1 (iv_c (x := (0 : Int32)) (k := 0) (by decide)) (by decide)]; rfl
          refine lv_istore_n (lv' := [(1, .int v27), (0, .ref a0), (2, .int j4_L2)]) hx hb dX9_slotsWithRow_28 rfl hl (by decide) rfl (fun ls hl => ?_)
          obtain ⟨v29, e29⟩ : ∃ y : Int32, y = j4_L2 + 1 := ⟨_, rfl⟩
          have hv29 : iv v29 1 4 := by rw [e29]; exact iv_w (iv_add hj4_L2_6l (iv_c (x := (1 : Int32)) (k := 1) (by decide)) (by decide)) (by decide)
          have s29 : v29.toInt = j4_L2.toInt + 1 := by rw [e29, iv_addE hj4_L2_6l (iv_c (x := (1 : Int32)) (k := 1) (by decide)) (by decide)]; rfl
          refine lv_iinc (v := v29) (lv' := [(2, .int v29), (1, .int v27), (0, .ref a0)]) hx hb dX9_slotsWithRow_29 hl (k := 2) rfl (by rw [e29]; rfl) (by decide) rfl (fun ls hl => ?_)
          refine lv_goto (tgt := 4) hx hb dX9_slotsWithRow_32 (by decide) ?_
          exact ih v27 v29 _ _ (ms_up hm (by have := s29; omega) (iv_w (c := 1) (d := 4) hv29 (by decide)).2) (iv_w hv27 (by decide)) (iv_w hv29 (by decide))  hS (lv_sub hl [2, 1, 0] rfl)
        refine lv_if_eq (tgt := 26) hx hb dX9_slotsWithRow_19 (by decide) (fun c19 => ?_) (fun c19 => ?_)
        · skip
          have kl0 : (0 : Int32).toInt = 0 := by decide
          have f19 := i_eq c19
          refine lv_iconst (v := 0) hx hb dX9_slotsWithRow_26 (by decide) ?_
          exact J27  _ _    hS (lv_sub hl [0, 1, 2] rfl)
        · skip
          have kl0 : (0 : Int32).toInt = 0 := by decide
          have f19 := i_ne c19
          exact (iv_no (show iv v16 1 (-1) from iv_nel hv16 (iv_c (x := (0 : Int32)) (k := 0) (by decide)) c19 (by decide)) (by decide)).elim
  refine lv_istore_n (lv' := [(2, .int (0 : Int32)), (1, .int (0 : Int32)), (0, .ref a0)]) hx hb dX9_slotsWithRow_3 rfl hl (by decide) rfl (fun ls hl => ?_)
  exact J4 _ (0 : Int32) (0 : Int32) _ _ (Nat.lt_succ_self _) (iv_w (iv_c (x := (0 : Int32)) (k := 0) (by decide)) (by decide)) (iv_w (iv_c (x := (0 : Int32)) (k := 0) (by decide)) (by decide))  hS (lv_sub hl [2, 1, 0] rfl)
set_option maxHeartbeats 4000000 in
set_option maxRecDepth 100000 in
theorem t_X0_clear (l : Launch) {D : va_G} {c0 : Nat → ClassId} {Y : Nat → Option Nat} {b : Bool} {H : Heap} (hT : TI D vwCl (tysOf c0) (RT1 b) Y H) {a0 : Nat} (ha0 : Y a0 = some 0) : Met l yX0_clear (wz yX0_clear cX0_clear 1 none) { frames := 0, cells := 0, slots := 0, locals := 0 } (TP D vwCl (tysOf c0) H [.ref a0]) (TQv (fun H' => TI D vwCl (tysOf c0) (RT1 b) Y H') Y) 0 0 (pA Y) := by
  refine Met.ofW (cc := cX0_clear) (maxL := 1) (ret := none) (by decide) rfl ?_
  intro p e s m args below meth c s₁ B hml hv
  obtain ⟨rfl, rfl, hK⟩ := hv
  have hx := B.exec
  have hb := B.bytes
  have hr := B.returns
  have hts : ∀ w ∈ wq, w.before _ s = true := fun w h => atoms_spec (ws := wz yX0_clear cX0_clear 1 none) B.pre w (List.mem_cons_of_mem _ h)
  have hown : s.vm.findClass RX0 = some m.cls := findClass_of_methodNamed B.named
  have hlocks := B.notSynchronized
  obtain ⟨R, hR⟩ : ∃ R : Room, R = ({ frames := 0, cells := 0, slots := 0, locals := 0 } : Room) := ⟨_, rfl⟩
  rw [show (headSpec (wz yX0_clear cX0_clear 1 none) { frames := 0, cells := 0, slots := 0, locals := 0 }).room = R from hR.symm]
  refine ti_mv hx hb hr hlocks (fun Q ret => ?_)
  have hl := lv_entry [.ref a0] (n := 1) (Nat.le_of_ble_eq_true rfl)
  rw [lg_entry_eq]
  generalize (lg_sl [.ref a0] ++ List.replicate (1 - (lg_sl [.ref a0]).length) Slot.unset).toArray = ls at hl ⊢
  have hl : lv_has ls 1 [(0, .ref a0)] := hl
  refine ti_gen (P := fun H => TI D vwCl (tysOf c0) (RT1 b) Y H) (Y := Y) hT (fun H locs hT hS => ?_)
  refine lv_aload_n hx hb dX0_clear_0 rfl (lv_at hl 0 rfl) ?_
  refine lv_iconst (v := 0) hx hb dX0_clear_1 (by decide) ?_
  refine ti_put (ty := .int) hx hb hts inlX0 tyX0 tyX0_ok nmX0 hown hK hT hS ha0 rfl rfl 0 (by decide) (hts _ kw_96) (fun _ h9 => h9) rfl rfl (by decide +kernel) rfl rfl ⟨(0 : Int32), rfl, iv_w (iv_c (x := (0 : Int32)) (k := 0) (by decide)) (by decide)⟩ dX0_clear_2 (fun H locs hT hS => ?_)
  refine lv_aload_n hx hb dX0_clear_5 rfl (lv_at hl 0 rfl) ?_
  refine lv_iconst (v := 2) hx hb dX0_clear_6 (by decide) ?_
  refine ti_put (ty := .int) hx hb hts inlX0 tyX0 tyX0_ok nmX0 hown hK hT hS ha0 rfl rfl 1 (by decide) (hts _ kw_97) (fun _ h9 => h9) rfl rfl (by decide +kernel) rfl rfl ⟨(2 : Int32), rfl, iv_w (iv_c (x := (2 : Int32)) (k := 2) (by decide)) (by decide)⟩ dX0_clear_7 (fun H locs hT hS => ?_)
  refine lv_aload_n hx hb dX0_clear_10 rfl (lv_at hl 0 rfl) ?_
  refine lv_iconst (v := 0) hx hb dX0_clear_11 (by decide) ?_
  refine ti_put (ty := .int) hx hb hts inlX0 tyX0 tyX0_ok nmX0 hown hK hT hS ha0 rfl rfl 2 (by decide) (hts _ kw_98) (fun _ h9 => h9) rfl rfl (by decide +kernel) rfl rfl ⟨(0 : Int32), rfl, iv_w (iv_c (x := (0 : Int32)) (k := 0) (by decide)) (by decide)⟩ dX0_clear_12 (fun H locs hT hS => ?_)
  refine lv_aload_n hx hb dX0_clear_15 rfl (lv_at hl 0 rfl) ?_
  refine lv_iconst (v := 0) hx hb dX0_clear_16 (by decide) ?_
  refine ti_put (ty := .boolean) hx hb hts inlX0 tyX0 tyX0_ok nmX0 hown hK hT hS ha0 rfl rfl 3 (by decide) (hts _ kw_99) (fun _ h9 => h9) rfl rfl (by decide +kernel) (ti_nz (iv_w (iv_c (x := (0 : Int32)) (k := 0) (by decide)) (by decide))).1 (ti_nz (iv_w (iv_c (x := (0 : Int32)) (k := 0) (by decide)) (by decide))).2 ⟨(0 : Int32), rfl, iv_w (iv_c (x := (0 : Int32)) (k := 0) (by decide)) (by decide)⟩ dX0_clear_17 (fun H locs hT hS => ?_)
  refine lv_aload_n hx hb dX0_clear_20 rfl (lv_at hl 0 rfl) ?_
  refine lv_iconst (v := 0) hx hb dX0_clear_21 (by decide) ?_
  refine ti_put (ty := .int) hx hb hts inlX0 tyX0 tyX0_ok nmX0 hown hK hT hS ha0 rfl rfl 4 (by decide) (hts _ kw_100) (fun _ h9 => h9) rfl rfl (by decide +kernel) rfl rfl ⟨(0 : Int32), rfl, iv_w (iv_c (x := (0 : Int32)) (k := 0) (by decide)) (by decide)⟩ dX0_clear_22 (fun H locs hT hS => ?_)
  exact ret _ _ _ _ dX0_clear_25 (hT) hS
set_option maxHeartbeats 4000000 in
set_option maxRecDepth 100000 in
theorem t_X7_clear (l : Launch) {D : va_G} {c0 : Nat → ClassId} {Y : Nat → Option Nat} {b : Bool} {H : Heap} (hT : TI D vwCl (tysOf c0) (RT1 b) Y H) {a0 : Nat} (ha0 : Y a0 = some 7) : Met l yX7_clear (wz yX7_clear cX7_clear 2 none) { frames := 1, cells := 0, slots := 0, locals := 20 } (TP D vwCl (tysOf c0) H [.ref a0]) (TQv (fun H' => TI D vwCl (tysOf c0) (RT1 b) Y H') Y) 0 0 (pA Y) := by
  refine Met.ofW (cc := cX7_clear) (maxL := 2) (ret := none) (by decide) rfl ?_
  intro p e s m args below meth c s₁ B hml hv
  obtain ⟨rfl, rfl, hK⟩ := hv
  have hx := B.exec
  have hb := B.bytes
  have hr := B.returns
  have hts : ∀ w ∈ wq, w.before _ s = true := fun w h => atoms_spec (ws := wz yX7_clear cX7_clear 2 none) B.pre w (List.mem_cons_of_mem _ h)
  have hown : s.vm.findClass RX7 = some m.cls := findClass_of_methodNamed B.named
  have hlocks := B.notSynchronized
  obtain ⟨R, hR⟩ : ∃ R : Room, R = ({ frames := 1, cells := 0, slots := 0, locals := 20 } : Room) := ⟨_, rfl⟩
  rw [show (headSpec (wz yX7_clear cX7_clear 2 none) { frames := 1, cells := 0, slots := 0, locals := 20 }).room = R from hR.symm]
  refine ti_mv hx hb hr hlocks (fun Q ret => ?_)
  have hl := lv_entry [.ref a0] (n := 2) (Nat.le_of_ble_eq_true rfl)
  rw [lg_entry_eq]
  generalize (lg_sl [.ref a0] ++ List.replicate (2 - (lg_sl [.ref a0]).length) Slot.unset).toArray = ls at hl ⊢
  have hl : lv_has ls 2 [(0, .ref a0)] := hl
  refine ti_gen (P := fun H => TI D vwCl (tysOf c0) (RT1 b) Y H) (Y := Y) hT (fun H locs hT hS => ?_)
  refine lv_aload_n hx hb dX7_clear_0 rfl (lv_at hl 0 rfl) ?_
  refine lv_iconst (v := 0) hx hb dX7_clear_1 (by decide) ?_
  refine ti_put (ty := .int) hx hb hts inlX7 tyX7 tyX7_ok nmX7 hown hK hT hS ha0 rfl rfl 0 (by decide) (hts _ kw_85) (fun _ h9 => h9) rfl rfl (by decide +kernel) rfl rfl ⟨(0 : Int32), rfl, iv_w (iv_c (x := (0 : Int32)) (k := 0) (by decide)) (by decide)⟩ dX7_clear_2 (fun H locs hT hS => ?_)
  refine lv_aload_n hx hb dX7_clear_5 rfl (lv_at hl 0 rfl) ?_
  refine lv_iconst (v := 0) hx hb dX7_clear_6 (by decide) ?_
  refine ti_put (ty := .int) hx hb hts inlX7 tyX7 tyX7_ok nmX7 hown hK hT hS ha0 rfl rfl 1 (by decide) (hts _ kw_86) (fun _ h9 => h9) rfl rfl (by decide +kernel) rfl rfl ⟨(0 : Int32), rfl, iv_w (iv_c (x := (0 : Int32)) (k := 0) (by decide)) (by decide)⟩ dX7_clear_7 (fun H locs hT hS => ?_)
  refine lv_aload_n hx hb dX7_clear_10 rfl (lv_at hl 0 rfl) ?_
  refine lv_iconst (v := 0) hx hb dX7_clear_11 (by decide) ?_
  refine ti_put (ty := .int) hx hb hts inlX7 tyX7 tyX7_ok nmX7 hown hK hT hS ha0 rfl rfl 2 (by decide) (hts _ kw_87) (fun _ h9 => h9) rfl rfl (by decide +kernel) rfl rfl ⟨(0 : Int32), rfl, iv_w (iv_c (x := (0 : Int32)) (k := 0) (by decide)) (by decide)⟩ dX7_clear_12 (fun H locs hT hS => ?_)
  refine lv_aload_n hx hb dX7_clear_15 rfl (lv_at hl 0 rfl) ?_
  refine lv_iconst (v := 0) hx hb dX7_clear_16 (by decide) ?_
  refine ti_put (ty := .int) hx hb hts inlX7 tyX7 tyX7_ok nmX7 hown hK hT hS ha0 rfl rfl 3 (by decide) (hts _ kw_88) (fun _ h9 => h9) rfl rfl (by decide +kernel) rfl rfl ⟨(0 : Int32), rfl, iv_w (iv_c (x := (0 : Int32)) (k := 0) (by decide)) (by decide)⟩ dX7_clear_17 (fun H locs hT hS => ?_)
  refine lv_aload_n hx hb dX7_clear_20 rfl (lv_at hl 0 rfl) ?_
  refine lv_iconst (v := 0) hx hb dX7_clear_21 (by decide) ?_
  refine ti_put (ty := .int) hx hb hts inlX7 tyX7 tyX7_ok nmX7 hown hK hT hS ha0 rfl rfl 4 (by decide) (hts _ kw_89) (fun _ h9 => h9) rfl rfl (by decide +kernel) rfl rfl ⟨(0 : Int32), rfl, iv_w (iv_c (x := (0 : Int32)) (k := 0) (by decide)) (by decide)⟩ dX7_clear_22 (fun H locs hT hS => ?_)
  refine lv_aload_n hx hb dX7_clear_25 rfl (lv_at hl 0 rfl) ?_
  refine lv_lconst (v := 0) hx hb dX7_clear_26 (by decide) ?_
  have kj0 : (0 : Int64).toInt = 0 := by decide
  refine ti_put (ty := .long) hx hb hts inlX7 tyX7 tyX7_ok nmX7 hown hK hT hS ha0 rfl rfl 5 (by decide) (hts _ kw_90) (fun _ h9 => h9) rfl rfl (by decide +kernel) rfl rfl ⟨(0 : Int64), rfl⟩ dX7_clear_27 (fun H locs hT hS => ?_)
  refine lv_aload_n hx hb dX7_clear_30 rfl (lv_at hl 0 rfl) ?_
  refine ti_getr hx hb hts inlX7 hown hK hT ha0 rfl rfl 6 (by decide) (hts _ kw_59) (fun _ h9 => h9) rfl dX7_clear_31 (fun v31 hv31 => ?_)
  refine ti_callv (va_runV (As := []) (rest := []) ⟨hx, hb, hml, hown, hts⟩ (t_X0_clear l hT hv31) (cwV 0 hts (good_V kw_92 kw_93 kw_94 kw_58 kw_95) rfl rfl rfl (by decide +kernel) ⟨by rw [hR]; decide, by rw [hR]; decide⟩) (ti_preV hK hT hv31 rfl rfl) rfl rfl hl.1 rfl (lv_room (Nat.le_of_ble_eq_true rfl)) dX7_clear_34 ⟨Nat.zero_le _, Nat.zero_le _⟩) hS (fun _ h => h) (fun H1 locs hB hS _ _ => ?_)
  have hT := hB
  generalize H1 = H at hT hS ⊢
  refine lv_aload_n hx hb dX7_clear_37 rfl (lv_at hl 0 rfl) ?_
  refine ti_getr hx hb hts inlX7 hown hK hT ha0 rfl rfl 7 (by decide) (hts _ kw_63) (fun _ h9 => h9) rfl dX7_clear_38 (fun v38 hv38 => ?_)
  refine lv_iconst (v := 0) hx hb dX7_clear_41 (by decide) ?_
  refine ti_put (ty := .int) hx hb hts inlX1 tyX1 tyX1_ok nmX1 hown hK hT hS hv38 rfl rfl 0 (by decide) (hts _ kw_91) (fun _ h9 => h9) rfl rfl (by decide +kernel) rfl rfl ⟨(0 : Int32), rfl, iv_w (iv_c (x := (0 : Int32)) (k := 0) (by decide)) (by decide)⟩ dX7_clear_42 (fun H locs hT hS => ?_)
  refine lv_iconst (v := 0) hx hb dX7_clear_45 (by decide) ?_
  have J47 : ∀ (n : Nat) (j47_L1 : Int32) (H : Heap) (locs : List Loc) (ls : Array Slot), (64 - j47_L1.toInt).toNat < n → iv j47_L1 0 64 → TI D vwCl (tysOf c0) (RT1 b) Y H → va_S (pA Y) s.heap H locs → lv_has ls 2 [(0, .ref a0), (1, .int j47_L1)] → W p l e R s m ([.ref a0] : List Value).toArray below meth c H locs 0 0 Q (F0 m 47 ls []) := by
    intro n
    induction n with
    | zero => intro j47_L1 H locs ls hm; exact absurd hm (Nat.not_lt_zero _)
    | succ n ih =>
      intro j47_L1 H locs ls hm hj47_L1 hT hS hl
      refine lv_iload_n hx hb dX7_clear_47 rfl (lv_at hl 1 rfl) ?_
      refine lv_aload_n hx hb dX7_clear_48 rfl (lv_at hl 0 rfl) ?_
      refine ti_getr hx hb hts inlX7 hown hK hT ha0 rfl rfl 9 (by decide) (hts _ kw_66) (fun _ h9 => h9) rfl dX7_clear_49 (fun v49 hv49 => ?_)
      refine ti_alen (v := 64) hx hb (aT0 hK) hT hv49 rfl (by decide) dX7_clear_52 ?_
      refine lv_icmp_ge (tgt := 69) hx hb dX7_clear_53 (by decide) (fun c53 => ?_) (fun c53 => ?_)
      · skip
        have kl64 : (64 : Int32).toInt = 64 := by decide
        have f53 := i_le c53
        have hj47_L1_53r : iv j47_L1 64 64 := iv_ler (iv_c (x := (64 : Int32)) (k := 64) (by decide)) hj47_L1 c53 (by decide)
        exact ret _ _ _ _ dX7_clear_69 (hT) hS
      · skip
        have kl64 : (64 : Int32).toInt = 64 := by decide
        have f53 := i_nle c53
        have hj47_L1_53l : iv j47_L1 0 63 := iv_ltl hj47_L1 (iv_c (x := (64 : Int32)) (k := 64) (by decide)) (Int32.not_le.mp c53) (by decide)
        refine lv_aload_n hx hb dX7_clear_56 rfl (lv_at hl 0 rfl) ?_
        refine ti_getr hx hb hts inlX7 hown hK hT ha0 rfl rfl 9 (by decide) (hts _ kw_66) (fun _ h9 => h9) rfl dX7_clear_57 (fun v57 hv57 => ?_)
        refine lv_iload_n hx hb dX7_clear_60 rfl (lv_at hl 1 rfl) ?_
        refine lv_iconst (v := 1) hx hb dX7_clear_61 (by decide) ?_
        refine ti_iast hx hb (aT0 hK) hT hS hv57 rfl hj47_L1_53l (by decide) (fun _ _ _ => ⟨_, _, rfl, by decide, by decide⟩) (iv_c (x := (1 : Int32)) (k := 1) (by decide)) dX7_clear_62 (fun H locs hT hS => ?_)
        obtain ⟨v63, e63⟩ : ∃ y : Int32, y = j47_L1 + 1 := ⟨_, rfl⟩
        have hv63 : iv v63 1 64 := by rw [e63]; exact iv_w (iv_add hj47_L1_53l (iv_c (x := (1 : Int32)) (k := 1) (by decide)) (by decide)) (by decide)
        have s63 : v63.toInt = j47_L1.toInt + 1 := by rw [e63, iv_addE hj47_L1_53l (iv_c (x := (1 : Int32)) (k := 1) (by decide)) (by decide)]; rfl
        refine lv_iinc (v := v63) (lv' := [(1, .int v63), (0, .ref a0)]) hx hb dX7_clear_63 hl (k := 1) rfl (by rw [e63]; rfl) (by decide) rfl (fun ls hl => ?_)
        refine lv_goto (tgt := 47) hx hb dX7_clear_66 (by decide) ?_
        exact ih v63 _ _ _ (ms_up hm (by have := s63; omega) (iv_w (c := 1) (d := 64) hv63 (by decide)).2) (iv_w hv63 (by decide)) hT hS (lv_sub hl [1, 0] rfl)
  refine lv_istore_n (lv' := [(1, .int (0 : Int32)), (0, .ref a0)]) hx hb dX7_clear_46 rfl hl (by decide) rfl (fun ls hl => ?_)
  exact J47 _ (0 : Int32) _ _ _ (Nat.lt_succ_self _) (iv_w (iv_c (x := (0 : Int32)) (k := 0) (by decide)) (by decide)) hT hS (lv_sub hl [1, 0] rfl)
set_option maxHeartbeats 4000000 in
set_option maxRecDepth 100000 in
theorem t_X3_copyFrom (l : Launch) {D : va_G} {c0 : Nat → ClassId} {Y : Nat → Option Nat} {b : Bool} {H : Heap} (hT : TI D vwCl (tysOf c0) (RT1 b) Y H) {a0 : Nat} (ha0 : Y a0 = some 3) {a1 : Nat} (ha1 : Y a1 = some 3) : Met l yX3_copyFrom (wz yX3_copyFrom cX3_copyFrom 2 none) { frames := 0, cells := 0, slots := 0, locals := 0 } (TP D vwCl (tysOf c0) H [.ref a0, .ref a1]) (TQv (fun H' => TI D vwCl (tysOf c0) (RT1 b) Y H') Y) 0 0 (pA Y) := by
  refine Met.ofW (cc := cX3_copyFrom) (maxL := 2) (ret := none) (by decide) rfl ?_
  intro p e s m args below meth c s₁ B hml hv
  obtain ⟨rfl, rfl, hK⟩ := hv
  have hx := B.exec
  have hb := B.bytes
  have hr := B.returns
  have hts : ∀ w ∈ wq, w.before _ s = true := fun w h => atoms_spec (ws := wz yX3_copyFrom cX3_copyFrom 2 none) B.pre w (List.mem_cons_of_mem _ h)
  have hown : s.vm.findClass RX3 = some m.cls := findClass_of_methodNamed B.named
  have hlocks := B.notSynchronized
  obtain ⟨R, hR⟩ : ∃ R : Room, R = ({ frames := 0, cells := 0, slots := 0, locals := 0 } : Room) := ⟨_, rfl⟩
  rw [show (headSpec (wz yX3_copyFrom cX3_copyFrom 2 none) { frames := 0, cells := 0, slots := 0, locals := 0 }).room = R from hR.symm]
  refine ti_mv hx hb hr hlocks (fun Q ret => ?_)
  have hl := lv_entry [.ref a0, .ref a1] (n := 2) (Nat.le_of_ble_eq_true rfl)
  rw [lg_entry_eq]
  generalize (lg_sl [.ref a0, .ref a1] ++ List.replicate (2 - (lg_sl [.ref a0, .ref a1]).length) Slot.unset).toArray = ls at hl ⊢
  have hl : lv_has ls 2 [(0, .ref a0), (1, .ref a1)] := hl
  refine ti_gen (P := fun H => TI D vwCl (tysOf c0) (RT1 b) Y H) (Y := Y) hT (fun H locs hT hS => ?_)
  refine lv_aload_n hx hb dX3_copyFrom_0 rfl (lv_at hl 0 rfl) ?_
  refine lv_aload_n hx hb dX3_copyFrom_1 rfl (lv_at hl 1 rfl) ?_
  refine ti_geti hx hb hts inlX3 hown hK hT ha1 rfl rfl 0 (by decide) (hts _ kw_364) (fun _ h9 => h9) rfl dX3_copyFrom_2 (fun v2 hv2 => ?_)
  refine ti_put (ty := .int) hx hb hts inlX3 tyX3 tyX3_ok nmX3 hown hK hT hS ha0 rfl rfl 0 (by decide) (hts _ kw_364) (fun _ h9 => h9) rfl rfl (by decide +kernel) rfl rfl ⟨v2, rfl, iv_w hv2 (by decide)⟩ dX3_copyFrom_5 (fun H locs hT hS => ?_)
  refine lv_aload_n hx hb dX3_copyFrom_8 rfl (lv_at hl 0 rfl) ?_
  refine lv_aload_n hx hb dX3_copyFrom_9 rfl (lv_at hl 1 rfl) ?_
  refine ti_geti hx hb hts inlX3 hown hK hT ha1 rfl rfl 1 (by decide) (hts _ kw_365) (fun _ h9 => h9) rfl dX3_copyFrom_10 (fun v10 hv10 => ?_)
  refine ti_put (ty := .int) hx hb hts inlX3 tyX3 tyX3_ok nmX3 hown hK hT hS ha0 rfl rfl 1 (by decide) (hts _ kw_365) (fun _ h9 => h9) rfl rfl (by decide +kernel) rfl rfl ⟨v10, rfl, iv_w hv10 (by decide)⟩ dX3_copyFrom_13 (fun H locs hT hS => ?_)
  refine lv_aload_n hx hb dX3_copyFrom_16 rfl (lv_at hl 0 rfl) ?_
  refine lv_aload_n hx hb dX3_copyFrom_17 rfl (lv_at hl 1 rfl) ?_
  refine ti_geti hx hb hts inlX3 hown hK hT ha1 rfl rfl 2 (by decide) (hts _ kw_366) (fun _ h9 => h9) rfl dX3_copyFrom_18 (fun v18 hv18 => ?_)
  refine ti_put (ty := .int) hx hb hts inlX3 tyX3 tyX3_ok nmX3 hown hK hT hS ha0 rfl rfl 2 (by decide) (hts _ kw_366) (fun _ h9 => h9) rfl rfl (by decide +kernel) rfl rfl ⟨v18, rfl, iv_w hv18 (by decide)⟩ dX3_copyFrom_21 (fun H locs hT hS => ?_)
  refine lv_aload_n hx hb dX3_copyFrom_24 rfl (lv_at hl 0 rfl) ?_
  refine lv_aload_n hx hb dX3_copyFrom_25 rfl (lv_at hl 1 rfl) ?_
  refine ti_geti hx hb hts inlX3 hown hK hT ha1 rfl rfl 3 (by decide) (hts _ kw_367) (fun _ h9 => h9) rfl dX3_copyFrom_26 (fun v26 hv26 => ?_)
  refine ti_put (ty := .int) hx hb hts inlX3 tyX3 tyX3_ok nmX3 hown hK hT hS ha0 rfl rfl 3 (by decide) (hts _ kw_367) (fun _ h9 => h9) rfl rfl (by decide +kernel) rfl rfl ⟨v26, rfl, iv_w hv26 (by decide)⟩ dX3_copyFrom_29 (fun H locs hT hS => ?_)
  refine lv_aload_n hx hb dX3_copyFrom_32 rfl (lv_at hl 0 rfl) ?_
  refine lv_aload_n hx hb dX3_copyFrom_33 rfl (lv_at hl 1 rfl) ?_
  refine ti_geti hx hb hts inlX3 hown hK hT ha1 rfl rfl 4 (by decide) (hts _ kw_368) (fun _ h9 => h9) rfl dX3_copyFrom_34 (fun v34 hv34 => ?_)
  refine ti_put (ty := .int) hx hb hts inlX3 tyX3 tyX3_ok nmX3 hown hK hT hS ha0 rfl rfl 4 (by decide) (hts _ kw_368) (fun _ h9 => h9) rfl rfl (by decide +kernel) rfl rfl ⟨v34, rfl, iv_w hv34 (by decide)⟩ dX3_copyFrom_37 (fun H locs hT hS => ?_)
  refine lv_aload_n hx hb dX3_copyFrom_40 rfl (lv_at hl 0 rfl) ?_
  refine lv_aload_n hx hb dX3_copyFrom_41 rfl (lv_at hl 1 rfl) ?_
  refine ti_geti hx hb hts inlX3 hown hK hT ha1 rfl rfl 5 (by decide) (hts _ kw_369) (fun _ h9 => h9) rfl dX3_copyFrom_42 (fun v42 hv42 => ?_)
  refine ti_put (ty := .int) hx hb hts inlX3 tyX3 tyX3_ok nmX3 hown hK hT hS ha0 rfl rfl 5 (by decide) (hts _ kw_369) (fun _ h9 => h9) rfl rfl (by decide +kernel) rfl rfl ⟨v42, rfl, iv_w hv42 (by decide)⟩ dX3_copyFrom_45 (fun H locs hT hS => ?_)
  refine lv_aload_n hx hb dX3_copyFrom_48 rfl (lv_at hl 0 rfl) ?_
  refine lv_aload_n hx hb dX3_copyFrom_49 rfl (lv_at hl 1 rfl) ?_
  refine ti_geti hx hb hts inlX3 hown hK hT ha1 rfl rfl 6 (by decide) (hts _ kw_370) (fun _ h9 => h9) rfl dX3_copyFrom_50 (fun v50 hv50 => ?_)
  refine ti_put (ty := .int) hx hb hts inlX3 tyX3 tyX3_ok nmX3 hown hK hT hS ha0 rfl rfl 6 (by decide) (hts _ kw_370) (fun _ h9 => h9) rfl rfl (by decide +kernel) rfl rfl ⟨v50, rfl, iv_w hv50 (by decide)⟩ dX3_copyFrom_53 (fun H locs hT hS => ?_)
  refine lv_aload_n hx hb dX3_copyFrom_56 rfl (lv_at hl 0 rfl) ?_
  refine lv_aload_n hx hb dX3_copyFrom_57 rfl (lv_at hl 1 rfl) ?_
  refine ti_geti hx hb hts inlX3 hown hK hT ha1 rfl rfl 7 (by decide) (hts _ kw_371) (fun _ h9 => h9) rfl dX3_copyFrom_58 (fun v58 hv58 => ?_)
  refine ti_put (ty := .int) hx hb hts inlX3 tyX3 tyX3_ok nmX3 hown hK hT hS ha0 rfl rfl 7 (by decide) (hts _ kw_371) (fun _ h9 => h9) rfl rfl (by decide +kernel) rfl rfl ⟨v58, rfl, iv_w hv58 (by decide)⟩ dX3_copyFrom_61 (fun H locs hT hS => ?_)
  refine lv_aload_n hx hb dX3_copyFrom_64 rfl (lv_at hl 0 rfl) ?_
  refine lv_aload_n hx hb dX3_copyFrom_65 rfl (lv_at hl 1 rfl) ?_
  refine ti_geti hx hb hts inlX3 hown hK hT ha1 rfl rfl 8 (by decide) (hts _ kw_372) (fun _ h9 => h9) rfl dX3_copyFrom_66 (fun v66 hv66 => ?_)
  refine ti_put (ty := .int) hx hb hts inlX3 tyX3 tyX3_ok nmX3 hown hK hT hS ha0 rfl rfl 8 (by decide) (hts _ kw_372) (fun _ h9 => h9) rfl rfl (by decide +kernel) rfl rfl ⟨v66, rfl, iv_w hv66 (by decide)⟩ dX3_copyFrom_69 (fun H locs hT hS => ?_)
  refine lv_aload_n hx hb dX3_copyFrom_72 rfl (lv_at hl 0 rfl) ?_
  refine lv_aload_n hx hb dX3_copyFrom_73 rfl (lv_at hl 1 rfl) ?_
  refine ti_geti hx hb hts inlX3 hown hK hT ha1 rfl rfl 9 (by decide) (hts _ kw_373) (fun _ h9 => h9) rfl dX3_copyFrom_74 (fun v74 hv74 => ?_)
  refine ti_put (ty := .int) hx hb hts inlX3 tyX3 tyX3_ok nmX3 hown hK hT hS ha0 rfl rfl 9 (by decide) (hts _ kw_373) (fun _ h9 => h9) rfl rfl (by decide +kernel) rfl rfl ⟨v74, rfl, iv_w hv74 (by decide)⟩ dX3_copyFrom_77 (fun H locs hT hS => ?_)
  exact ret _ _ _ _ dX3_copyFrom_80 (hT) hS
set_option maxHeartbeats 4000000 in
set_option maxRecDepth 100000 in
theorem t_X0_copyFrom (l : Launch) {D : va_G} {c0 : Nat → ClassId} {Y : Nat → Option Nat} {b : Bool} {H : Heap} (hT : TI D vwCl (tysOf c0) (RT1 b) Y H) {a0 : Nat} (ha0 : Y a0 = some 0) {a1 : Nat} (ha1 : Y a1 = some 0) : Met l yX0_copyFrom (wz yX0_copyFrom cX0_copyFrom 2 none) { frames := 0, cells := 0, slots := 0, locals := 0 } (TP D vwCl (tysOf c0) H [.ref a0, .ref a1]) (TQv (fun H' => TI D vwCl (tysOf c0) (RT1 b) Y H') Y) 0 0 (pA Y) := by
  refine Met.ofW (cc := cX0_copyFrom) (maxL := 2) (ret := none) (by decide) rfl ?_
  intro p e s m args below meth c s₁ B hml hv
  obtain ⟨rfl, rfl, hK⟩ := hv
  have hx := B.exec
  have hb := B.bytes
  have hr := B.returns
  have hts : ∀ w ∈ wq, w.before _ s = true := fun w h => atoms_spec (ws := wz yX0_copyFrom cX0_copyFrom 2 none) B.pre w (List.mem_cons_of_mem _ h)
  have hown : s.vm.findClass RX0 = some m.cls := findClass_of_methodNamed B.named
  have hlocks := B.notSynchronized
  obtain ⟨R, hR⟩ : ∃ R : Room, R = ({ frames := 0, cells := 0, slots := 0, locals := 0 } : Room) := ⟨_, rfl⟩
  rw [show (headSpec (wz yX0_copyFrom cX0_copyFrom 2 none) { frames := 0, cells := 0, slots := 0, locals := 0 }).room = R from hR.symm]
  refine ti_mv hx hb hr hlocks (fun Q ret => ?_)
  have hl := lv_entry [.ref a0, .ref a1] (n := 2) (Nat.le_of_ble_eq_true rfl)
  rw [lg_entry_eq]
  generalize (lg_sl [.ref a0, .ref a1] ++ List.replicate (2 - (lg_sl [.ref a0, .ref a1]).length) Slot.unset).toArray = ls at hl ⊢
  have hl : lv_has ls 2 [(0, .ref a0), (1, .ref a1)] := hl
  refine ti_gen (P := fun H => TI D vwCl (tysOf c0) (RT1 b) Y H) (Y := Y) hT (fun H locs hT hS => ?_)
  refine lv_aload_n hx hb dX0_copyFrom_0 rfl (lv_at hl 0 rfl) ?_
  refine lv_aload_n hx hb dX0_copyFrom_1 rfl (lv_at hl 1 rfl) ?_
  refine ti_geti hx hb hts inlX0 hown hK hT ha1 rfl rfl 0 (by decide) (hts _ kw_96) (fun _ h9 => h9) rfl dX0_copyFrom_2 (fun v2 hv2 => ?_)
  refine ti_put (ty := .int) hx hb hts inlX0 tyX0 tyX0_ok nmX0 hown hK hT hS ha0 rfl rfl 0 (by decide) (hts _ kw_96) (fun _ h9 => h9) rfl rfl (by decide +kernel) rfl rfl ⟨v2, rfl, iv_w hv2 (by decide)⟩ dX0_copyFrom_5 (fun H locs hT hS => ?_)
  refine lv_aload_n hx hb dX0_copyFrom_8 rfl (lv_at hl 0 rfl) ?_
  refine lv_aload_n hx hb dX0_copyFrom_9 rfl (lv_at hl 1 rfl) ?_
  refine ti_geti hx hb hts inlX0 hown hK hT ha1 rfl rfl 1 (by decide) (hts _ kw_97) (fun _ h9 => h9) rfl dX0_copyFrom_10 (fun v10 hv10 => ?_)
  refine ti_put (ty := .int) hx hb hts inlX0 tyX0 tyX0_ok nmX0 hown hK hT hS ha0 rfl rfl 1 (by decide) (hts _ kw_97) (fun _ h9 => h9) rfl rfl (by decide +kernel) rfl rfl ⟨v10, rfl, iv_w hv10 (by decide)⟩ dX0_copyFrom_13 (fun H locs hT hS => ?_)
  refine lv_aload_n hx hb dX0_copyFrom_16 rfl (lv_at hl 0 rfl) ?_
  refine lv_aload_n hx hb dX0_copyFrom_17 rfl (lv_at hl 1 rfl) ?_
  refine ti_geti hx hb hts inlX0 hown hK hT ha1 rfl rfl 2 (by decide) (hts _ kw_98) (fun _ h9 => h9) rfl dX0_copyFrom_18 (fun v18 hv18 => ?_)
  refine ti_put (ty := .int) hx hb hts inlX0 tyX0 tyX0_ok nmX0 hown hK hT hS ha0 rfl rfl 2 (by decide) (hts _ kw_98) (fun _ h9 => h9) rfl rfl (by decide +kernel) rfl rfl ⟨v18, rfl, iv_w hv18 (by decide)⟩ dX0_copyFrom_21 (fun H locs hT hS => ?_)
  refine lv_aload_n hx hb dX0_copyFrom_24 rfl (lv_at hl 0 rfl) ?_
  refine lv_aload_n hx hb dX0_copyFrom_25 rfl (lv_at hl 1 rfl) ?_
  refine ti_geti hx hb hts inlX0 hown hK hT ha1 rfl rfl 3 (by decide) (hts _ kw_99) (fun _ h9 => h9) rfl dX0_copyFrom_26 (fun v26 hv26 => ?_)
  refine ti_put (ty := .boolean) hx hb hts inlX0 tyX0 tyX0_ok nmX0 hown hK hT hS ha0 rfl rfl 3 (by decide) (hts _ kw_99) (fun _ h9 => h9) rfl rfl (by decide +kernel) (ti_nz (iv_w hv26 (by decide))).1 (ti_nz (iv_w hv26 (by decide))).2 ⟨v26, rfl, iv_w hv26 (by decide)⟩ dX0_copyFrom_29 (fun H locs hT hS => ?_)
  refine lv_aload_n hx hb dX0_copyFrom_32 rfl (lv_at hl 0 rfl) ?_
  refine lv_aload_n hx hb dX0_copyFrom_33 rfl (lv_at hl 1 rfl) ?_
  refine ti_geti hx hb hts inlX0 hown hK hT ha1 rfl rfl 4 (by decide) (hts _ kw_100) (fun _ h9 => h9) rfl dX0_copyFrom_34 (fun v34 hv34 => ?_)
  refine ti_put (ty := .int) hx hb hts inlX0 tyX0 tyX0_ok nmX0 hown hK hT hS ha0 rfl rfl 4 (by decide) (hts _ kw_100) (fun _ h9 => h9) rfl rfl (by decide +kernel) rfl rfl ⟨v34, rfl, iv_w hv34 (by decide)⟩ dX0_copyFrom_37 (fun H locs hT hS => ?_)
  exact ret _ _ _ _ dX0_copyFrom_40 (hT) hS
set_option maxHeartbeats 4000000 in
set_option maxRecDepth 100000 in
theorem t_X1_copyFrom (l : Launch) {D : va_G} {c0 : Nat → ClassId} {Y : Nat → Option Nat} {b : Bool} {H : Heap} (hT : TI D vwCl (tysOf c0) (RT1 b) Y H) {a0 : Nat} (ha0 : Y a0 = some 1) {a1 : Nat} (ha1 : Y a1 = some 1) : Met l yX1_copyFrom (wz yX1_copyFrom cX1_copyFrom 2 none) { frames := 1, cells := 0, slots := 0, locals := 60 } (TP D vwCl (tysOf c0) H [.ref a0, .ref a1]) (TQv (fun H' => TI D vwCl (tysOf c0) (RT1 b) Y H') Y) 0 0 (pA Y) := by
  refine Met.ofW (cc := cX1_copyFrom) (maxL := 2) (ret := none) (by decide) rfl ?_
  intro p e s m args below meth c s₁ B hml hv
  obtain ⟨rfl, rfl, hK⟩ := hv
  have hx := B.exec
  have hb := B.bytes
  have hr := B.returns
  have hts : ∀ w ∈ wq, w.before _ s = true := fun w h => atoms_spec (ws := wz yX1_copyFrom cX1_copyFrom 2 none) B.pre w (List.mem_cons_of_mem _ h)
  have hown : s.vm.findClass RX1 = some m.cls := findClass_of_methodNamed B.named
  have hlocks := B.notSynchronized
  obtain ⟨R, hR⟩ : ∃ R : Room, R = ({ frames := 1, cells := 0, slots := 0, locals := 60 } : Room) := ⟨_, rfl⟩
  rw [show (headSpec (wz yX1_copyFrom cX1_copyFrom 2 none) { frames := 1, cells := 0, slots := 0, locals := 60 }).room = R from hR.symm]
  refine ti_mv hx hb hr hlocks (fun Q ret => ?_)
  have hl := lv_entry [.ref a0, .ref a1] (n := 2) (Nat.le_of_ble_eq_true rfl)
  rw [lg_entry_eq]
  generalize (lg_sl [.ref a0, .ref a1] ++ List.replicate (2 - (lg_sl [.ref a0, .ref a1]).length) Slot.unset).toArray = ls at hl ⊢
  have hl : lv_has ls 2 [(0, .ref a0), (1, .ref a1)] := hl
  refine ti_gen (P := fun H => TI D vwCl (tysOf c0) (RT1 b) Y H) (Y := Y) hT (fun H locs hT hS => ?_)
  refine lv_aload_n hx hb dX1_copyFrom_0 rfl (lv_at hl 0 rfl) ?_
  refine lv_aload_n hx hb dX1_copyFrom_1 rfl (lv_at hl 1 rfl) ?_
  refine ti_geti hx hb hts inlX1 hown hK hT ha1 rfl rfl 0 (by decide) (hts _ kw_358) (fun _ h9 => h9) rfl dX1_copyFrom_2 (fun v2 hv2 => ?_)
  refine ti_put (ty := .int) hx hb hts inlX1 tyX1 tyX1_ok nmX1 hown hK hT hS ha0 rfl rfl 0 (by decide) (hts _ kw_358) (fun _ h9 => h9) rfl rfl (by decide +kernel) rfl rfl ⟨v2, rfl, iv_w hv2 (by decide)⟩ dX1_copyFrom_5 (fun H locs hT hS => ?_)
  refine lv_aload_n hx hb dX1_copyFrom_8 rfl (lv_at hl 1 rfl) ?_
  refine ti_getr hx hb hts inlX1 hown hK hT ha1 rfl rfl 1 (by decide) (hts _ kw_75) (fun _ h9 => h9) rfl dX1_copyFrom_9 (fun v9 hv9 => ?_)
  refine lv_iconst (v := 0) hx hb dX1_copyFrom_12 (by decide) ?_
  refine lv_aload_n hx hb dX1_copyFrom_13 rfl (lv_at hl 0 rfl) ?_
  refine ti_getr hx hb hts inlX1 hown hK hT ha0 rfl rfl 1 (by decide) (hts _ kw_75) (fun _ h9 => h9) rfl dX1_copyFrom_14 (fun v14 hv14 => ?_)
  refine lv_iconst (v := 0) hx hb dX1_copyFrom_17 (by decide) ?_
  refine lv_bipush (v := 6) hx hb dX1_copyFrom_18 (by decide) ?_
  refine ti_copyi hx hb (by rw [hml]; exact hl.1.symm) hown (hts _ kw_359) (hts _ kw_347) (hts _ kw_348) (hts _ kw_349) hK hT hS hv9 hv14 rfl (fun _ _ => ⟨_, _, rfl⟩) (fun _ _ => rfl) (by decide) (by rw [hR]; decide) (by rw [hR]; exact Nat.le_of_ble_eq_true rfl) dX1_copyFrom_20 (fun H locs hT hS => ?_)
  refine lv_aload_n hx hb dX1_copyFrom_23 rfl (lv_at hl 1 rfl) ?_
  refine ti_getr hx hb hts inlX1 hown hK hT ha1 rfl rfl 2 (by decide) (hts _ kw_76) (fun _ h9 => h9) rfl dX1_copyFrom_24 (fun v24 hv24 => ?_)
  refine lv_iconst (v := 0) hx hb dX1_copyFrom_27 (by decide) ?_
  refine lv_aload_n hx hb dX1_copyFrom_28 rfl (lv_at hl 0 rfl) ?_
  refine ti_getr hx hb hts inlX1 hown hK hT ha0 rfl rfl 2 (by decide) (hts _ kw_76) (fun _ h9 => h9) rfl dX1_copyFrom_29 (fun v29 hv29 => ?_)
  refine lv_iconst (v := 0) hx hb dX1_copyFrom_32 (by decide) ?_
  refine lv_bipush (v := 6) hx hb dX1_copyFrom_33 (by decide) ?_
  refine ti_copyi hx hb (by rw [hml]; exact hl.1.symm) hown (hts _ kw_359) (hts _ kw_347) (hts _ kw_348) (hts _ kw_349) hK hT hS hv24 hv29 rfl (fun _ _ => ⟨_, _, rfl⟩) (fun _ _ => rfl) (by decide) (by rw [hR]; decide) (by rw [hR]; exact Nat.le_of_ble_eq_true rfl) dX1_copyFrom_35 (fun H locs hT hS => ?_)
  refine lv_aload_n hx hb dX1_copyFrom_38 rfl (lv_at hl 1 rfl) ?_
  refine ti_getr hx hb hts inlX1 hown hK hT ha1 rfl rfl 3 (by decide) (hts _ kw_77) (fun _ h9 => h9) rfl dX1_copyFrom_39 (fun v39 hv39 => ?_)
  refine lv_iconst (v := 0) hx hb dX1_copyFrom_42 (by decide) ?_
  refine lv_aload_n hx hb dX1_copyFrom_43 rfl (lv_at hl 0 rfl) ?_
  refine ti_getr hx hb hts inlX1 hown hK hT ha0 rfl rfl 3 (by decide) (hts _ kw_77) (fun _ h9 => h9) rfl dX1_copyFrom_44 (fun v44 hv44 => ?_)
  refine lv_iconst (v := 0) hx hb dX1_copyFrom_47 (by decide) ?_
  refine lv_bipush (v := 6) hx hb dX1_copyFrom_48 (by decide) ?_
  refine ti_copyi hx hb (by rw [hml]; exact hl.1.symm) hown (hts _ kw_359) (hts _ kw_347) (hts _ kw_348) (hts _ kw_349) hK hT hS hv39 hv44 rfl (fun _ _ => ⟨_, _, rfl⟩) (fun _ _ => rfl) (by decide) (by rw [hR]; decide) (by rw [hR]; exact Nat.le_of_ble_eq_true rfl) dX1_copyFrom_50 (fun H locs hT hS => ?_)
  exact ret _ _ _ _ dX1_copyFrom_53 (hT) hS
set_option maxHeartbeats 4000000 in
set_option maxRecDepth 100000 in
theorem t_X7_copyFrom (l : Launch) {D : va_G} {c0 : Nat → ClassId} {Y : Nat → Option Nat} {b : Bool} {H : Heap} (hT : TI D vwCl (tysOf c0) (RT1 b) Y H) {a0 : Nat} (ha0 : Y a0 = some 7) {a1 : Nat} (ha1 : Y a1 = some 7) : Met l yX7_copyFrom (wz yX7_copyFrom cX7_copyFrom 3 none) { frames := 2, cells := 0, slots := 0, locals := 81 } (TP D vwCl (tysOf c0) H [.ref a0, .ref a1]) (TQv (fun H' => TI D vwCl (tysOf c0) (RT1 b) Y H') Y) 0 0 (pA Y) := by
  refine Met.ofW (cc := cX7_copyFrom) (maxL := 3) (ret := none) (by decide) rfl ?_
  intro p e s m args below meth c s₁ B hml hv
  obtain ⟨rfl, rfl, hK⟩ := hv
  have hx := B.exec
  have hb := B.bytes
  have hr := B.returns
  have hts : ∀ w ∈ wq, w.before _ s = true := fun w h => atoms_spec (ws := wz yX7_copyFrom cX7_copyFrom 3 none) B.pre w (List.mem_cons_of_mem _ h)
  have hown : s.vm.findClass RX7 = some m.cls := findClass_of_methodNamed B.named
  have hlocks := B.notSynchronized
  obtain ⟨R, hR⟩ : ∃ R : Room, R = ({ frames := 2, cells := 0, slots := 0, locals := 81 } : Room) := ⟨_, rfl⟩
  rw [show (headSpec (wz yX7_copyFrom cX7_copyFrom 3 none) { frames := 2, cells := 0, slots := 0, locals := 81 }).room = R from hR.symm]
  refine ti_mv hx hb hr hlocks (fun Q ret => ?_)
  have hl := lv_entry [.ref a0, .ref a1] (n := 3) (Nat.le_of_ble_eq_true rfl)
  rw [lg_entry_eq]
  generalize (lg_sl [.ref a0, .ref a1] ++ List.replicate (3 - (lg_sl [.ref a0, .ref a1]).length) Slot.unset).toArray = ls at hl ⊢
  have hl : lv_has ls 3 [(0, .ref a0), (1, .ref a1)] := hl
  refine ti_gen (P := fun H => TI D vwCl (tysOf c0) (RT1 b) Y H) (Y := Y) hT (fun H locs hT hS => ?_)
  refine lv_aload_n hx hb dX7_copyFrom_0 rfl (lv_at hl 0 rfl) ?_
  refine lv_aload_n hx hb dX7_copyFrom_1 rfl (lv_at hl 1 rfl) ?_
  refine ti_geti hx hb hts inlX7 hown hK hT ha1 rfl rfl 0 (by decide) (hts _ kw_85) (fun _ h9 => h9) rfl dX7_copyFrom_2 (fun v2 hv2 => ?_)
  refine ti_put (ty := .int) hx hb hts inlX7 tyX7 tyX7_ok nmX7 hown hK hT hS ha0 rfl rfl 0 (by decide) (hts _ kw_85) (fun _ h9 => h9) rfl rfl (by decide +kernel) rfl rfl ⟨v2, rfl, iv_w hv2 (by decide)⟩ dX7_copyFrom_5 (fun H locs hT hS => ?_)
  refine lv_aload_n hx hb dX7_copyFrom_8 rfl (lv_at hl 0 rfl) ?_
  refine lv_aload_n hx hb dX7_copyFrom_9 rfl (lv_at hl 1 rfl) ?_
  refine ti_geti hx hb hts inlX7 hown hK hT ha1 rfl rfl 1 (by decide) (hts _ kw_86) (fun _ h9 => h9) rfl dX7_copyFrom_10 (fun v10 hv10 => ?_)
  refine ti_put (ty := .int) hx hb hts inlX7 tyX7 tyX7_ok nmX7 hown hK hT hS ha0 rfl rfl 1 (by decide) (hts _ kw_86) (fun _ h9 => h9) rfl rfl (by decide +kernel) rfl rfl ⟨v10, rfl, iv_w hv10 (by decide)⟩ dX7_copyFrom_13 (fun H locs hT hS => ?_)
  refine lv_aload_n hx hb dX7_copyFrom_16 rfl (lv_at hl 0 rfl) ?_
  refine lv_aload_n hx hb dX7_copyFrom_17 rfl (lv_at hl 1 rfl) ?_
  refine ti_geti hx hb hts inlX7 hown hK hT ha1 rfl rfl 2 (by decide) (hts _ kw_87) (fun _ h9 => h9) rfl dX7_copyFrom_18 (fun v18 hv18 => ?_)
  refine ti_put (ty := .int) hx hb hts inlX7 tyX7 tyX7_ok nmX7 hown hK hT hS ha0 rfl rfl 2 (by decide) (hts _ kw_87) (fun _ h9 => h9) rfl rfl (by decide +kernel) rfl rfl ⟨v18, rfl, iv_w hv18 (by decide)⟩ dX7_copyFrom_21 (fun H locs hT hS => ?_)
  refine lv_aload_n hx hb dX7_copyFrom_24 rfl (lv_at hl 0 rfl) ?_
  refine lv_aload_n hx hb dX7_copyFrom_25 rfl (lv_at hl 1 rfl) ?_
  refine ti_geti hx hb hts inlX7 hown hK hT ha1 rfl rfl 3 (by decide) (hts _ kw_88) (fun _ h9 => h9) rfl dX7_copyFrom_26 (fun v26 hv26 => ?_)
  refine ti_put (ty := .int) hx hb hts inlX7 tyX7 tyX7_ok nmX7 hown hK hT hS ha0 rfl rfl 3 (by decide) (hts _ kw_88) (fun _ h9 => h9) rfl rfl (by decide +kernel) rfl rfl ⟨v26, rfl, iv_w hv26 (by decide)⟩ dX7_copyFrom_29 (fun H locs hT hS => ?_)
  refine lv_aload_n hx hb dX7_copyFrom_32 rfl (lv_at hl 0 rfl) ?_
  refine lv_aload_n hx hb dX7_copyFrom_33 rfl (lv_at hl 1 rfl) ?_
  refine ti_geti hx hb hts inlX7 hown hK hT ha1 rfl rfl 4 (by decide) (hts _ kw_89) (fun _ h9 => h9) rfl dX7_copyFrom_34 (fun v34 hv34 => ?_)
  refine ti_put (ty := .int) hx hb hts inlX7 tyX7 tyX7_ok nmX7 hown hK hT hS ha0 rfl rfl 4 (by decide) (hts _ kw_89) (fun _ h9 => h9) rfl rfl (by decide +kernel) rfl rfl ⟨v34, rfl, iv_w hv34 (by decide)⟩ dX7_copyFrom_37 (fun H locs hT hS => ?_)
  refine lv_aload_n hx hb dX7_copyFrom_40 rfl (lv_at hl 0 rfl) ?_
  refine lv_aload_n hx hb dX7_copyFrom_41 rfl (lv_at hl 1 rfl) ?_
  refine ti_getl hx hb hts inlX7 hown hK hT ha1 rfl rfl 5 (by decide) (hts _ kw_90) (fun _ h9 => h9) rfl dX7_copyFrom_42 (fun v42 => ?_)
  refine ti_put (ty := .long) hx hb hts inlX7 tyX7 tyX7_ok nmX7 hown hK hT hS ha0 rfl rfl 5 (by decide) (hts _ kw_90) (fun _ h9 => h9) rfl rfl (by decide +kernel) rfl rfl ⟨v42, rfl⟩ dX7_copyFrom_45 (fun H locs hT hS => ?_)
  refine lv_aload_n hx hb dX7_copyFrom_48 rfl (lv_at hl 0 rfl) ?_
  refine ti_getr hx hb hts inlX7 hown hK hT ha0 rfl rfl 6 (by decide) (hts _ kw_59) (fun _ h9 => h9) rfl dX7_copyFrom_49 (fun v49 hv49 => ?_)
  refine lv_aload_n hx hb dX7_copyFrom_52 rfl (lv_at hl 1 rfl) ?_
  refine ti_getr hx hb hts inlX7 hown hK hT ha1 rfl rfl 6 (by decide) (hts _ kw_59) (fun _ h9 => h9) rfl dX7_copyFrom_53 (fun v53 hv53 => ?_)
  refine ti_callv (va_runV (As := [.ref v53]) (rest := []) ⟨hx, hb, hml, hown, hts⟩ (t_X0_copyFrom l hT hv49 hv53) (cwV 1 hts (good_V kw_350 kw_351 kw_352 kw_58 kw_353) rfl rfl rfl (by decide +kernel) ⟨by rw [hR]; decide, by rw [hR]; decide⟩) (ti_preV hK hT hv49 rfl rfl) rfl rfl hl.1 rfl (lv_room (Nat.le_of_ble_eq_true rfl)) dX7_copyFrom_56 ⟨Nat.zero_le _, Nat.zero_le _⟩) hS (fun _ h => h) (fun H1 locs hB hS _ _ => ?_)
  have hT := hB
  generalize H1 = H at hT hS ⊢
  refine lv_aload_n hx hb dX7_copyFrom_59 rfl (lv_at hl 0 rfl) ?_
  refine ti_getr hx hb hts inlX7 hown hK hT ha0 rfl rfl 7 (by decide) (hts _ kw_63) (fun _ h9 => h9) rfl dX7_copyFrom_60 (fun v60 hv60 => ?_)
  refine lv_aload_n hx hb dX7_copyFrom_63 rfl (lv_at hl 1 rfl) ?_
  refine ti_getr hx hb hts inlX7 hown hK hT ha1 rfl rfl 7 (by decide) (hts _ kw_63) (fun _ h9 => h9) rfl dX7_copyFrom_64 (fun v64 hv64 => ?_)
  refine ti_callv (va_runV (As := [.ref v64]) (rest := []) ⟨hx, hb, hml, hown, hts⟩ (t_X1_copyFrom l hT hv60 hv64) (cwV 1 hts (good_V kw_354 kw_355 kw_356 kw_62 kw_357) rfl rfl rfl (by decide +kernel) ⟨by rw [hR]; decide, by rw [hR]; decide⟩) (ti_preV hK hT hv60 rfl rfl) rfl rfl hl.1 rfl (lv_room (Nat.le_of_ble_eq_true rfl)) dX7_copyFrom_67 ⟨Nat.zero_le _, Nat.zero_le _⟩) hS (fun _ h => h) (fun H1 locs hB hS _ _ => ?_)
  have hT := hB
  generalize H1 = H at hT hS ⊢
  refine lv_iconst (v := 0) hx hb dX7_copyFrom_70 (by decide) ?_
  have J72 : ∀ (n : Nat) (j72_L2 : Int32) (H : Heap) (locs : List Loc) (ls : Array Slot), (8 - j72_L2.toInt).toNat < n → iv j72_L2 0 8 → TI D vwCl (tysOf c0) (RT1 b) Y H → va_S (pA Y) s.heap H locs → lv_has ls 3 [(0, .ref a0), (1, .ref a1), (2, .int j72_L2)] → W p l e R s m ([.ref a0, .ref a1] : List Value).toArray below meth c H locs 0 0 Q (F0 m 72 ls []) := by
    intro n
    induction n with
    | zero => intro j72_L2 H locs ls hm; exact absurd hm (Nat.not_lt_zero _)
    | succ n ih =>
      intro j72_L2 H locs ls hm hj72_L2 hT hS hl
      refine lv_iload_n hx hb dX7_copyFrom_72 rfl (lv_at hl 2 rfl) ?_
      refine lv_bipush (v := 8) hx hb dX7_copyFrom_73 (by decide) ?_
      refine lv_icmp_ge (tgt := 99) hx hb dX7_copyFrom_75 (by decide) (fun c75 => ?_) (fun c75 => ?_)
      · skip
        have kl8 : (8 : Int32).toInt = 8 := by decide
        have f75 := i_le c75
        have hj72_L2_75r : iv j72_L2 8 8 := iv_ler (iv_c (x := (8 : Int32)) (k := 8) (by decide)) hj72_L2 c75 (by decide)
        refine lv_aload_n hx hb dX7_copyFrom_99 rfl (lv_at hl 1 rfl) ?_
        refine ti_getr hx hb hts inlX7 hown hK hT ha1 rfl rfl 9 (by decide) (hts _ kw_66) (fun _ h9 => h9) rfl dX7_copyFrom_100 (fun v100 hv100 => ?_)
        refine lv_iconst (v := 0) hx hb dX7_copyFrom_103 (by decide) ?_
        refine lv_aload_n hx hb dX7_copyFrom_104 rfl (lv_at hl 0 rfl) ?_
        refine ti_getr hx hb hts inlX7 hown hK hT ha0 rfl rfl 9 (by decide) (hts _ kw_66) (fun _ h9 => h9) rfl dX7_copyFrom_105 (fun v105 hv105 => ?_)
        refine lv_iconst (v := 0) hx hb dX7_copyFrom_108 (by decide) ?_
        refine lv_aload_n hx hb dX7_copyFrom_109 rfl (lv_at hl 0 rfl) ?_
        refine ti_getr hx hb hts inlX7 hown hK hT ha0 rfl rfl 9 (by decide) (hts _ kw_66) (fun _ h9 => h9) rfl dX7_copyFrom_110 (fun v110 hv110 => ?_)
        refine ti_alen (v := 64) hx hb (aT0 hK) hT hv110 rfl (by decide) dX7_copyFrom_113 ?_
        refine ti_copyi hx hb (by rw [hml]; exact hl.1.symm) hown (hts _ kw_346) (hts _ kw_347) (hts _ kw_348) (hts _ kw_349) hK hT hS hv100 hv105 rfl (fun _ _ => ⟨_, _, rfl⟩) (fun _ _ => rfl) (by decide) (by rw [hR]; decide) (by rw [hR]; exact Nat.le_of_ble_eq_true rfl) dX7_copyFrom_114 (fun H locs hT hS => ?_)
        exact ret _ _ _ _ dX7_copyFrom_117 (hT) hS
      · skip
        have kl8 : (8 : Int32).toInt = 8 := by decide
        have f75 := i_nle c75
        have hj72_L2_75l : iv j72_L2 0 7 := iv_ltl hj72_L2 (iv_c (x := (8 : Int32)) (k := 8) (by decide)) (Int32.not_le.mp c75) (by decide)
        refine lv_aload_n hx hb dX7_copyFrom_78 rfl (lv_at hl 0 rfl) ?_
        refine ti_getr hx hb hts inlX7 hown hK hT ha0 rfl rfl 8 (by decide) (hts _ kw_65) (fun _ h9 => h9) rfl dX7_copyFrom_79 (fun v79 hv79 => ?_)
        refine lv_iload_n hx hb dX7_copyFrom_82 rfl (lv_at hl 2 rfl) ?_
        refine ti_aald hx hb (aT6 hK) hT hv79 rfl hj72_L2_75l (by decide) (fun _ _ _ => rfl) dX7_copyFrom_83 (fun v83 hv83 => ?_)
        refine lv_aload_n hx hb dX7_copyFrom_84 rfl (lv_at hl 1 rfl) ?_
        refine ti_getr hx hb hts inlX7 hown hK hT ha1 rfl rfl 8 (by decide) (hts _ kw_65) (fun _ h9 => h9) rfl dX7_copyFrom_85 (fun v85 hv85 => ?_)
        refine lv_iload_n hx hb dX7_copyFrom_88 rfl (lv_at hl 2 rfl) ?_
        refine ti_aald hx hb (aT6 hK) hT hv85 rfl hj72_L2_75l (by decide) (fun _ _ _ => rfl) dX7_copyFrom_89 (fun v89 hv89 => ?_)
        refine ti_callv (va_runV (As := [.ref v89]) (rest := []) ⟨hx, hb, hml, hown, hts⟩ (t_X3_copyFrom l hT hv83 hv89) (cwV 1 hts (good_V kw_360 kw_361 kw_362 kw_68 kw_363) rfl rfl rfl (by decide +kernel) ⟨by rw [hR]; decide, by rw [hR]; decide⟩) (ti_preV hK hT hv83 rfl rfl) rfl rfl hl.1 rfl (lv_room (Nat.le_of_ble_eq_true rfl)) dX7_copyFrom_90 ⟨Nat.zero_le _, Nat.zero_le _⟩) hS (fun _ h => h) (fun H1 locs hB hS _ _ => ?_)
        have hT := hB
        generalize H1 = H at hT hS ⊢
        obtain ⟨v93, e93⟩ : ∃ y : Int32, y = j72_L2 + 1 := ⟨_, rfl⟩
        have hv93 : iv v93 1 8 := by rw [e93]; exact iv_w (iv_add hj72_L2_75l (iv_c (x := (1 : Int32)) (k := 1) (by decide)) (by decide)) (by decide)
        have s93 : v93.toInt = j72_L2.toInt + 1 := by rw [e93, iv_addE hj72_L2_75l (iv_c (x := (1 : Int32)) (k := 1) (by decide)) (by decide)]; rfl
        refine lv_iinc (v := v93) (lv' := [(2, .int v93), (0, .ref a0), (1, .ref a1)]) hx hb dX7_copyFrom_93 hl (k := 2) rfl (by rw [e93]; rfl) (by decide) rfl (fun ls hl => ?_)
        refine lv_goto (tgt := 72) hx hb dX7_copyFrom_96 (by decide) ?_
        exact ih v93 _ _ _ (ms_up hm (by have := s93; omega) (iv_w (c := 1) (d := 8) hv93 (by decide)).2) (iv_w hv93 (by decide)) hT hS (lv_sub hl [1, 2, 0] rfl)
  refine lv_istore_n (lv' := [(2, .int (0 : Int32)), (0, .ref a0), (1, .ref a1)]) hx hb dX7_copyFrom_71 rfl hl (by decide) rfl (fun ls hl => ?_)
  exact J72 _ (0 : Int32) _ _ _ (Nat.lt_succ_self _) (iv_w (iv_c (x := (0 : Int32)) (k := 0) (by decide)) (by decide)) hT hS (lv_sub hl [1, 2, 0] rfl)
set_option maxHeartbeats 4000000 in
set_option maxRecDepth 100000 in
theorem t_X7_spreadOut (l : Launch) {D : va_G} {c0 : Nat → ClassId} {Y : Nat → Option Nat} {b : Bool} {H : Heap} (hT : TI D vwCl (tysOf c0) (RT1 b) Y H) {a0 : Nat} (ha0 : Y a0 = some 7) : Met l yX7_spreadOut (wz yX7_spreadOut cX7_spreadOut 4 (some .int)) { frames := 0, cells := 0, slots := 0, locals := 0 } (TP D vwCl (tysOf c0) H [.ref a0]) (TQi (fun x H' => H' = H ∧ iv x 0 0) Y) 0 0 (pA Y) := by
  refine Met.ofW (cc := cX7_spreadOut) (maxL := 4) (ret := (some .int)) (by decide) rfl ?_
  intro p e s m args below meth c s₁ B hml hv
  obtain ⟨rfl, rfl, hK⟩ := hv
  have hx := B.exec
  have hb := B.bytes
  have hr := B.returns
  have hts : ∀ w ∈ wq, w.before _ s = true := fun w h => atoms_spec (ws := wz yX7_spreadOut cX7_spreadOut 4 (some .int)) B.pre w (List.mem_cons_of_mem _ h)
  have hown : s.vm.findClass RX7 = some m.cls := findClass_of_methodNamed B.named
  have hlocks := B.notSynchronized
  obtain ⟨R, hR⟩ : ∃ R : Room, R = ({ frames := 0, cells := 0, slots := 0, locals := 0 } : Room) := ⟨_, rfl⟩
  rw [show (headSpec (wz yX7_spreadOut cX7_spreadOut 4 (some .int)) { frames := 0, cells := 0, slots := 0, locals := 0 }).room = R from hR.symm]
  refine ti_mi hx hb hr hlocks (fun Q ret => ?_)
  have hl := lv_entry [.ref a0] (n := 4) (Nat.le_of_ble_eq_true rfl)
  rw [lg_entry_eq]
  generalize (lg_sl [.ref a0] ++ List.replicate (4 - (lg_sl [.ref a0]).length) Slot.unset).toArray = ls at hl ⊢
  have hl : lv_has ls 4 [(0, .ref a0)] := hl
  have hS : va_S (pA Y) s.heap s.heap [] := va_S.rf
  refine lv_iconst (v := 0) hx hb dX7_spreadOut_0 (by decide) ?_
  refine lv_istore_n (lv' := [(1, .int (0 : Int32)), (0, .ref a0)]) hx hb dX7_spreadOut_1 rfl hl (by decide) rfl (fun ls hl => ?_)
  refine lv_iconst (v := 0) hx hb dX7_spreadOut_2 (by decide) ?_
  have J4 : ∀  (locs : List Loc) (ls : Array Slot), va_S (pA Y) s.heap s.heap locs → lv_has ls 4 [(0, .ref a0), (1, .int (0 : Int32)), (2, .int (0 : Int32))] → W p l e R s m ([.ref a0] : List Value).toArray below meth c s.heap locs 0 0 Q (F0 m 4 ls []) := by
    intro  locs ls  hS hl
    refine lv_iload_n hx hb dX7_spreadOut_4 rfl (lv_at hl 2 rfl) ?_
    refine lv_aload_n hx hb dX7_spreadOut_5 rfl (lv_at hl 0 rfl) ?_
    refine ti_geti hx hb hts inlX7 hown hK hT ha0 rfl rfl 1 (by decide) (hts _ kw_86) (fun _ h9 => h9) rfl dX7_spreadOut_6 (fun v6 hv6 => ?_)
    refine lv_icmp_ge (tgt := 56) hx hb dX7_spreadOut_9 (by decide) (fun c9 => ?_) (fun c9 => ?_)
    · skip
      have kl0 : (0 : Int32).toInt = 0 := by decide
      have f9 := i_le c9
      refine lv_iload_n hx hb dX7_spreadOut_56 rfl (lv_at hl 1 rfl) ?_
      exact ret _ _ _ _ _ dX7_spreadOut_57 (⟨rfl, iv_w (iv_c (x := (0 : Int32)) (k := 0) (by decide)) (by decide)⟩) hS
    · skip
      have kl0 : (0 : Int32).toInt = 0 := by decide
      have f9 := i_nle c9
      exact (iv_no (show iv (0 : Int32) 0 (-1) from iv_ltl (iv_c (x := (0 : Int32)) (k := 0) (by decide)) hv6 (Int32.not_le.mp c9) (by decide)) (by decide)).elim
  refine lv_istore_n (lv' := [(2, .int (0 : Int32)), (1, .int (0 : Int32)), (0, .ref a0)]) hx hb dX7_spreadOut_3 rfl hl (by decide) rfl (fun ls hl => ?_)
  exact J4  _ _    hS (lv_sub hl [2, 1, 0] rfl)
set_option maxHeartbeats 4000000 in
set_option maxRecDepth 100000 in
theorem t_X6_advance (l : Launch) {D : va_G} {c0 : Nat → ClassId} {Y : Nat → Option Nat} {b : Bool} {H : Heap} (hT : TI D vwCl (tysOf c0) (RT1 b) Y H) {a0 : Nat} (ha0 : Y a0 = some 6) : Met l yX6_advance (wz yX6_advance cX6_advance 2 none) { frames := 0, cells := 0, slots := 0, locals := 0 } (TP D vwCl (tysOf c0) H [.ref a0]) (TQv (fun H' => TI D vwCl (tysOf c0) (RT1 b) Y H') Y) 0 0 (pA Y) := by
  refine Met.ofW (cc := cX6_advance) (maxL := 2) (ret := none) (by decide) rfl ?_
  intro p e s m args below meth c s₁ B hml hv
  obtain ⟨rfl, rfl, hK⟩ := hv
  have hx := B.exec
  have hb := B.bytes
  have hr := B.returns
  have hts : ∀ w ∈ wq, w.before _ s = true := fun w h => atoms_spec (ws := wz yX6_advance cX6_advance 2 none) B.pre w (List.mem_cons_of_mem _ h)
  have hown : s.vm.findClass RX6 = some m.cls := findClass_of_methodNamed B.named
  have hlocks := B.notSynchronized
  obtain ⟨R, hR⟩ : ∃ R : Room, R = ({ frames := 0, cells := 0, slots := 0, locals := 0 } : Room) := ⟨_, rfl⟩
  rw [show (headSpec (wz yX6_advance cX6_advance 2 none) { frames := 0, cells := 0, slots := 0, locals := 0 }).room = R from hR.symm]
  refine ti_mv hx hb hr hlocks (fun Q ret => ?_)
  have hl := lv_entry [.ref a0] (n := 2) (Nat.le_of_ble_eq_true rfl)
  rw [lg_entry_eq]
  generalize (lg_sl [.ref a0] ++ List.replicate (2 - (lg_sl [.ref a0]).length) Slot.unset).toArray = ls at hl ⊢
  have hl : lv_has ls 2 [(0, .ref a0)] := hl
  refine ti_gen (P := fun H => TI D vwCl (tysOf c0) (RT1 b) Y H) (Y := Y) hT (fun H locs hT hS => ?_)
  refine lv_aload_n hx hb dX6_advance_0 rfl (lv_at hl 0 rfl) ?_
  refine lv_aload_n hx hb dX6_advance_1 rfl (lv_at hl 0 rfl) ?_
  refine ti_geti hx hb hts inlX6 hown hK hT ha0 rfl rfl 5 (by decide) (hts _ kw_194) (fun _ h9 => h9) rfl dX6_advance_2 (fun v2 hv2 => ?_)
  have J8 : ∀  (H : Heap) (locs : List Loc) (ls : Array Slot), TI D vwCl (tysOf c0) (RT1 b) Y H → va_S (pA Y) s.heap H locs → lv_has ls 2 [(0, .ref a0)] → W p l e R s m ([.ref a0] : List Value).toArray below meth c H locs 0 0 Q (F0 m 8 ls []) := by
    intro  H locs ls  hT hS hl
    refine lv_aload_n hx hb dX6_advance_8 rfl (lv_at hl 0 rfl) ?_
    refine ti_geti hx hb hts inlX6 hown hK hT ha0 rfl rfl 4 (by decide) (hts _ kw_207) (fun _ h9 => h9) rfl dX6_advance_9 (fun v9 hv9 => ?_)
    refine lv_aload_n hx hb dX6_advance_12 rfl (lv_at hl 0 rfl) ?_
    refine ti_geti hx hb hts inlX6 hown hK hT ha0 rfl rfl 1 (by decide) (hts _ kw_167) (fun _ h9 => h9) rfl dX6_advance_13 (fun v13 hv13 => ?_)
    have J60 : ∀  (H : Heap) (locs : List Loc) (ls : Array Slot), TI D vwCl (tysOf c0) (RT1 b) Y H → va_S (pA Y) s.heap H locs → lv_has ls 2 [(0, .ref a0)] → W p l e R s m ([.ref a0] : List Value).toArray below meth c H locs 0 0 Q (F0 m 60 ls []) := by
      intro  H locs ls  hT hS hl
      refine lv_aload_n hx hb dX6_advance_60 rfl (lv_at hl 0 rfl) ?_
      refine lv_aload_n hx hb dX6_advance_61 rfl (lv_at hl 0 rfl) ?_
      refine ti_geti hx hb hts inlX6 hown hK hT ha0 rfl rfl 4 (by decide) (hts _ kw_207) (fun _ h9 => h9) rfl dX6_advance_62 (fun v62 hv62 => ?_)
      refine ti_put (ty := .int) hx hb hts inlX6 tyX6 tyX6_ok nmX6 hown hK hT hS ha0 rfl rfl 5 (by decide) (hts _ kw_194) (fun _ h9 => h9) rfl rfl (by decide +kernel) rfl rfl ⟨v62, rfl, iv_w hv62 (by decide)⟩ dX6_advance_65 (fun H locs hT hS => ?_)
      refine lv_aload_n hx hb dX6_advance_68 rfl (lv_at hl 0 rfl) ?_
      refine ti_geti hx hb hts inlX6 hown hK hT ha0 rfl rfl 4 (by decide) (hts _ kw_207) (fun _ h9 => h9) rfl dX6_advance_69 (fun v69 hv69 => ?_)
      refine lv_aload_n hx hb dX6_advance_72 rfl (lv_at hl 0 rfl) ?_
      refine ti_geti hx hb hts inlX6 hown hK hT ha0 rfl rfl 1 (by decide) (hts _ kw_167) (fun _ h9 => h9) rfl dX6_advance_73 (fun v73 hv73 => ?_)
      refine lv_icmp_lt (tgt := 85) hx hb dX6_advance_76 (by decide) (fun c76 => ?_) (fun c76 => ?_)
      · skip
        have f76 := i_lt c76
        exact (iv_no (show iv v69 0 (-1) from iv_ltl hv69 hv73 c76 (by decide)) (by decide)).elim
      · skip
        have f76 := i_nlt c76
        refine lv_aload_n hx hb dX6_advance_79 rfl (lv_at hl 0 rfl) ?_
        refine lv_iconst (v := 0) hx hb dX6_advance_80 (by decide) ?_
        refine ti_put (ty := .int) hx hb hts inlX6 tyX6 tyX6_ok nmX6 hown hK hT hS ha0 rfl rfl 3 (by decide) (hts _ kw_199) (fun _ h9 => h9) rfl rfl (by decide +kernel) rfl rfl ⟨(0 : Int32), rfl, iv_w (iv_c (x := (0 : Int32)) (k := 0) (by decide)) (by decide)⟩ dX6_advance_81 (fun H locs hT hS => ?_)
        exact ret _ _ _ _ dX6_advance_84 (hT) hS
    refine lv_icmp_ge (tgt := 60) hx hb dX6_advance_16 (by decide) (fun c16 => ?_) (fun c16 => ?_)
    · skip
      have f16 := i_le c16
      exact J60  _ _ _   hT hS (lv_sub hl [0] rfl)
    · skip
      have f16 := i_nle c16
      exact (iv_no (show iv v9 0 (-1) from iv_ltl hv9 hv13 (Int32.not_le.mp c16) (by decide)) (by decide)).elim
  refine ti_put (ty := .int) hx hb hts inlX6 tyX6 tyX6_ok nmX6 hown hK hT hS ha0 rfl rfl 4 (by decide) (hts _ kw_207) (fun _ h9 => h9) rfl rfl (by decide +kernel) rfl rfl ⟨v2, rfl, iv_w hv2 (by decide)⟩ dX6_advance_5 (fun H locs hT hS => ?_)
  exact J8  _ _ _   hT hS (lv_sub hl [0] rfl)
set_option maxHeartbeats 4000000 in
set_option maxRecDepth 100000 in
theorem t_X6_read (l : Launch) {D : va_G} {c0 : Nat → ClassId} {Y : Nat → Option Nat} {b : Bool} {H : Heap} (hT : TI D vwCl (tysOf c0) (RT1 b) Y H) {a0 : Nat} (ha0 : Y a0 = some 6) : Met l yX6_read (wz yX6_read cX6_read 2 (some .boolean)) { frames := 2, cells := 0, slots := 0, locals := 41 } (TP D vwCl (tysOf c0) H [.ref a0]) (TQi (fun x H' => TI D vwCl (tysOf c0) (RT1 b) Y H' ∧ iv x 1 1) Y) 0 0 (pA Y) := by
  refine Met.ofW (cc := cX6_read) (maxL := 2) (ret := (some .boolean)) (by decide) rfl ?_
  intro p e s m args below meth c s₁ B hml hv
  obtain ⟨rfl, rfl, hK⟩ := hv
  have hx := B.exec
  have hb := B.bytes
  have hr := B.returns
  have hts : ∀ w ∈ wq, w.before _ s = true := fun w h => atoms_spec (ws := wz yX6_read cX6_read 2 (some .boolean)) B.pre w (List.mem_cons_of_mem _ h)
  have hown : s.vm.findClass RX6 = some m.cls := findClass_of_methodNamed B.named
  have hlocks := B.notSynchronized
  obtain ⟨R, hR⟩ : ∃ R : Room, R = ({ frames := 2, cells := 0, slots := 0, locals := 41 } : Room) := ⟨_, rfl⟩
  rw [show (headSpec (wz yX6_read cX6_read 2 (some .boolean)) { frames := 2, cells := 0, slots := 0, locals := 41 }).room = R from hR.symm]
  refine ti_mz hx hb hr hlocks (fun Q ret => ?_)
  have hl := lv_entry [.ref a0] (n := 2) (Nat.le_of_ble_eq_true rfl)
  rw [lg_entry_eq]
  generalize (lg_sl [.ref a0] ++ List.replicate (2 - (lg_sl [.ref a0]).length) Slot.unset).toArray = ls at hl ⊢
  have hl : lv_has ls 2 [(0, .ref a0)] := hl
  refine ti_gen (P := fun H => TI D vwCl (tysOf c0) (RT1 b) Y H) (Y := Y) hT (fun H locs hT hS => ?_)
  refine lv_aload_n hx hb dX6_read_0 rfl (lv_at hl 0 rfl) ?_
  refine ti_getr hx hb hts inlX6 hown hK hT ha0 rfl rfl 2 (by decide) (hts _ kw_50) (fun _ h9 => h9) rfl dX6_read_1 (fun v1 hv1 => ?_)
  refine ti_callv (va_runV (As := []) (rest := []) ⟨hx, hb, hml, hown, hts⟩ (t_X7_clear l hT hv1) (cwV 0 hts (good_V kw_202 kw_82 kw_83 kw_19 kw_84) rfl rfl rfl (by decide +kernel) ⟨by rw [hR]; decide, by rw [hR]; decide⟩) (ti_preV hK hT hv1 rfl rfl) rfl rfl hl.1 rfl (lv_room (Nat.le_of_ble_eq_true rfl)) dX6_read_4 ⟨Nat.zero_le _, Nat.zero_le _⟩) hS (fun _ h => h) (fun H1 locs hB hS _ _ => ?_)
  have hT := hB
  generalize H1 = H at hT hS ⊢
  refine lv_aload_n hx hb dX6_read_7 rfl (lv_at hl 0 rfl) ?_
  refine lv_iconst (v := 0) hx hb dX6_read_8 (by decide) ?_
  refine ti_put (ty := .int) hx hb hts inlX6 tyX6 tyX6_ok nmX6 hown hK hT hS ha0 rfl rfl 5 (by decide) (hts _ kw_194) (fun _ h9 => h9) rfl rfl (by decide +kernel) rfl rfl ⟨(0 : Int32), rfl, iv_w (iv_c (x := (0 : Int32)) (k := 0) (by decide)) (by decide)⟩ dX6_read_9 (fun H locs hT hS => ?_)
  refine lv_aload_n hx hb dX6_read_12 rfl (lv_at hl 0 rfl) ?_
  refine lv_iconst (v := 0) hx hb dX6_read_13 (by decide) ?_
  refine ti_put (ty := .boolean) hx hb hts inlX6 tyX6 tyX6_ok nmX6 hown hK hT hS ha0 rfl rfl 7 (by decide) (hts _ kw_195) (fun _ h9 => h9) rfl rfl (by decide +kernel) (ti_nz (iv_w (iv_c (x := (0 : Int32)) (k := 0) (by decide)) (by decide))).1 (ti_nz (iv_w (iv_c (x := (0 : Int32)) (k := 0) (by decide)) (by decide))).2 ⟨(0 : Int32), rfl, iv_w (iv_c (x := (0 : Int32)) (k := 0) (by decide)) (by decide)⟩ dX6_read_14 (fun H locs hT hS => ?_)
  refine lv_aload_n hx hb dX6_read_17 rfl (lv_at hl 0 rfl) ?_
  refine lv_iconst (v := 0) hx hb dX6_read_18 (by decide) ?_
  refine ti_put (ty := .boolean) hx hb hts inlX6 tyX6 tyX6_ok nmX6 hown hK hT hS ha0 rfl rfl 8 (by decide) (hts _ kw_196) (fun _ h9 => h9) rfl rfl (by decide +kernel) (ti_nz (iv_w (iv_c (x := (0 : Int32)) (k := 0) (by decide)) (by decide))).1 (ti_nz (iv_w (iv_c (x := (0 : Int32)) (k := 0) (by decide)) (by decide))).2 ⟨(0 : Int32), rfl, iv_w (iv_c (x := (0 : Int32)) (k := 0) (by decide)) (by decide)⟩ dX6_read_19 (fun H locs hT hS => ?_)
  refine lv_aload_n hx hb dX6_read_22 rfl (lv_at hl 0 rfl) ?_
  refine lv_iconst (v := 0) hx hb dX6_read_23 (by decide) ?_
  refine ti_put (ty := .int) hx hb hts inlX6 tyX6 tyX6_ok nmX6 hown hK hT hS ha0 rfl rfl 9 (by decide) (hts _ kw_197) (fun _ h9 => h9) rfl rfl (by decide +kernel) rfl rfl ⟨(0 : Int32), rfl, iv_w (iv_c (x := (0 : Int32)) (k := 0) (by decide)) (by decide)⟩ dX6_read_24 (fun H locs hT hS => ?_)
  refine lv_aload_n hx hb dX6_read_27 rfl (lv_at hl 0 rfl) ?_
  refine lv_iconst (v := 0) hx hb dX6_read_28 (by decide) ?_
  refine ti_put (ty := .int) hx hb hts inlX6 tyX6 tyX6_ok nmX6 hown hK hT hS ha0 rfl rfl 10 (by decide) (hts _ kw_198) (fun _ h9 => h9) rfl rfl (by decide +kernel) rfl rfl ⟨(0 : Int32), rfl, iv_w (iv_c (x := (0 : Int32)) (k := 0) (by decide)) (by decide)⟩ dX6_read_29 (fun H locs hT hS => ?_)
  refine lv_aload_n hx hb dX6_read_32 rfl (lv_at hl 0 rfl) ?_
  refine lv_iconst (v := (-1)) hx hb dX6_read_33 (by decide) ?_
  refine ti_put (ty := .int) hx hb hts inlX6 tyX6 tyX6_ok nmX6 hown hK hT hS ha0 rfl rfl 11 (by decide) (hts _ kw_51) (fun _ h9 => h9) rfl rfl (by decide +kernel) rfl rfl ⟨(-1 : Int32), rfl, iv_w (iv_c (x := (-1 : Int32)) (k := (-1)) (by decide)) (by decide)⟩ dX6_read_34 (fun H locs hT hS => ?_)
  refine lv_aload_n hx hb dX6_read_37 rfl (lv_at hl 0 rfl) ?_
  refine ti_callv (va_runV (As := []) (rest := []) ⟨hx, hb, hml, hown, hts⟩ (t_X6_advance l hT ha0) (cwV 0 hts (good_V kw_203 kw_204 kw_205 kw_15 kw_206) rfl rfl rfl (by decide +kernel) ⟨by rw [hR]; decide, by rw [hR]; decide⟩) (ti_preV hK hT ha0 rfl rfl) rfl rfl hl.1 rfl (lv_room (Nat.le_of_ble_eq_true rfl)) dX6_read_38 ⟨Nat.zero_le _, Nat.zero_le _⟩) hS (fun _ h => h) (fun H1 locs hB hS _ _ => ?_)
  have hT := hB
  generalize H1 = H at hT hS ⊢
  refine lv_iconst (v := 0) hx hb dX6_read_41 (by decide) ?_
  have J43 : ∀  (H : Heap) (locs : List Loc) (ls : Array Slot), TI D vwCl (tysOf c0) (RT1 b) Y H → va_S (pA Y) s.heap H locs → lv_has ls 2 [(0, .ref a0), (1, .int (0 : Int32))] → W p l e R s m ([.ref a0] : List Value).toArray below meth c H locs 0 0 Q (F0 m 43 ls []) := by
    intro  H locs ls  hT hS hl
    refine lv_iload_n hx hb dX6_read_43 rfl (lv_at hl 1 rfl) ?_
    refine lv_aload_n hx hb dX6_read_44 rfl (lv_at hl 0 rfl) ?_
    refine ti_geti hx hb hts inlX6 hown hK hT ha0 rfl rfl 1 (by decide) (hts _ kw_167) (fun _ h9 => h9) rfl dX6_read_45 (fun v45 hv45 => ?_)
    have J179 : ∀  (H : Heap) (locs : List Loc) (ls : Array Slot), TI D vwCl (tysOf c0) (RT1 b) Y H → va_S (pA Y) s.heap H locs → lv_has ls 2 [(0, .ref a0), (1, .int (0 : Int32))] → W p l e R s m ([.ref a0] : List Value).toArray below meth c H locs 0 0 Q (F0 m 179 ls []) := by
      intro  H locs ls  hT hS hl
      refine lv_aload_n hx hb dX6_read_179 rfl (lv_at hl 0 rfl) ?_
      refine ti_geti hx hb hts inlX6 hown hK hT ha0 rfl rfl 10 (by decide) (hts _ kw_198) (fun _ h9 => h9) rfl dX6_read_180 (fun v180 hv180 => ?_)
      refine lv_if_ne (tgt := 190) hx hb dX6_read_183 (by decide) (fun c183 => ?_) (fun c183 => ?_)
      · skip
        have kl0 : (0 : Int32).toInt = 0 := by decide
        have f183 := i_ne c183
        exact (iv_no (show iv v180 1 (-1) from iv_nel hv180 (iv_c (x := (0 : Int32)) (k := 0) (by decide)) c183 (by decide)) (by decide)).elim
      · skip
        have kl0 : (0 : Int32).toInt = 0 := by decide
        have f183 := i_eq c183
        refine lv_iconst (v := 1) hx hb dX6_read_186 (by decide) ?_
        refine lv_goto (tgt := 191) hx hb dX6_read_187 (by decide) ?_
        exact ret _ _ _ _ _ dX6_read_191 (iv_w (iv_c (x := (1 : Int32)) (k := 1) (by decide)) (by decide)) (⟨hT, iv_w (iv_c (x := (1 : Int32)) (k := 1) (by decide)) (by decide)⟩) hS
    refine lv_icmp_ge (tgt := 179) hx hb dX6_read_48 (by decide) (fun c48 => ?_) (fun c48 => ?_)
    · skip
      have kl0 : (0 : Int32).toInt = 0 := by decide
      have f48 := i_le c48
      exact J179  _ _ _   hT hS (lv_sub hl [0, 1] rfl)
    · skip
      have kl0 : (0 : Int32).toInt = 0 := by decide
      have f48 := i_nle c48
      exact (iv_no (show iv (0 : Int32) 0 (-1) from iv_ltl (iv_c (x := (0 : Int32)) (k := 0) (by decide)) hv45 (Int32.not_le.mp c48) (by decide)) (by decide)).elim
  refine lv_istore_n (lv' := [(1, .int (0 : Int32)), (0, .ref a0)]) hx hb dX6_read_42 rfl hl (by decide) rfl (fun ls hl => ?_)
  exact J43  _ _ _   hT hS (lv_sub hl [1, 0] rfl)
set_option maxHeartbeats 4000000 in
set_option maxRecDepth 100000 in
theorem t_X5_begin (l : Launch) {D : va_G} {c0 : Nat → ClassId} {Y : Nat → Option Nat} {H : Heap} (hT : TI D vwCl (tysOf c0) (RT1 true) Y H) {a0 : Nat} (ha0 : Y a0 = some 5) {x1 : Int32} (hx1 : iv x1 (-2147483648) 2147483647) {x2 : Int32} (hx2 : iv x2 (-2147483648) 2147483647) : Met l yX5_begin (wz yX5_begin cX5_begin 4 none) { frames := 0, cells := 0, slots := 0, locals := 0 } (TP D vwCl (tysOf c0) H [.ref a0, .int x1, .int x2]) (TQv (fun H' => TI D vwCl (tysOf c0) (RT1 true) Y H') Y) 0 0 (pA Y) := by
  refine Met.ofW (cc := cX5_begin) (maxL := 4) (ret := none) (by decide) rfl ?_
  intro p e s m args below meth c s₁ B hml hv
  obtain ⟨rfl, rfl, hK⟩ := hv
  have hx := B.exec
  have hb := B.bytes
  have hr := B.returns
  have hts : ∀ w ∈ wq, w.before _ s = true := fun w h => atoms_spec (ws := wz yX5_begin cX5_begin 4 none) B.pre w (List.mem_cons_of_mem _ h)
  have hown : s.vm.findClass RX5 = some m.cls := findClass_of_methodNamed B.named
  have hlocks := B.notSynchronized
  obtain ⟨R, hR⟩ : ∃ R : Room, R = ({ frames := 0, cells := 0, slots := 0, locals := 0 } : Room) := ⟨_, rfl⟩
  rw [show (headSpec (wz yX5_begin cX5_begin 4 none) { frames := 0, cells := 0, slots := 0, locals := 0 }).room = R from hR.symm]
  refine ti_mv hx hb hr hlocks (fun Q ret => ?_)
  have hl := lv_entry [.ref a0, .int x1, .int x2] (n := 4) (Nat.le_of_ble_eq_true rfl)
  rw [lg_entry_eq]
  generalize (lg_sl [.ref a0, .int x1, .int x2] ++ List.replicate (4 - (lg_sl [.ref a0, .int x1, .int x2]).length) Slot.unset).toArray = ls at hl ⊢
  have hl : lv_has ls 4 [(0, .ref a0), (1, .int x1), (2, .int x2)] := hl
  refine ti_gen (P := fun H => TI D vwCl (tysOf c0) (RT1 true) Y H) (Y := Y) hT (fun H locs hT hS => ?_)
  refine lv_aload_n hx hb dX5_begin_0 rfl (lv_at hl 0 rfl) ?_
  refine lv_iconst (v := 1) hx hb dX5_begin_1 (by decide) ?_
  refine ti_put (ty := .boolean) hx hb hts inlX5 tyX5 tyX5_ok nmX5 hown hK hT hS ha0 rfl rfl 0 (by decide) (hts _ kw_1540) (fun _ h9 => h9) rfl rfl (by decide +kernel) (ti_nz (iv_w (iv_c (x := (1 : Int32)) (k := 1) (by decide)) (by decide))).1 (ti_nz (iv_w (iv_c (x := (1 : Int32)) (k := 1) (by decide)) (by decide))).2 ⟨(1 : Int32), rfl, iv_w (iv_c (x := (1 : Int32)) (k := 1) (by decide)) (by decide)⟩ dX5_begin_2 (fun H locs hT hS => ?_)
  refine lv_aload_n hx hb dX5_begin_5 rfl (lv_at hl 0 rfl) ?_
  refine lv_iload_n hx hb dX5_begin_6 rfl (lv_at hl 1 rfl) ?_
  refine ti_put (ty := .int) hx hb hts inlX5 tyX5 tyX5_ok nmX5 hown hK hT hS ha0 rfl rfl 1 (by decide) (hts _ kw_1541) (fun _ h9 => h9) rfl rfl (by decide +kernel) rfl rfl ⟨x1, rfl, iv_w hx1 (by decide)⟩ dX5_begin_7 (fun H locs hT hS => ?_)
  refine lv_aload_n hx hb dX5_begin_10 rfl (lv_at hl 0 rfl) ?_
  refine lv_iload_n hx hb dX5_begin_11 rfl (lv_at hl 2 rfl) ?_
  refine ti_put (ty := .int) hx hb hts inlX5 tyX5 tyX5_ok nmX5 hown hK hT hS ha0 rfl rfl 2 (by decide) (hts _ kw_1542) (fun _ h9 => h9) rfl rfl (by decide +kernel) rfl rfl ⟨x2, rfl, iv_w hx2 (by decide)⟩ dX5_begin_12 (fun H locs hT hS => ?_)
  refine lv_iconst (v := 0) hx hb dX5_begin_15 (by decide) ?_
  have J17 : ∀ (n : Nat) (j17_L3 : Int32) (H : Heap) (locs : List Loc) (ls : Array Slot), (60 - j17_L3.toInt).toNat < n → iv j17_L3 0 60 → TI D vwCl (tysOf c0) (RT1 true) Y H → va_S (pA Y) s.heap H locs → lv_has ls 4 [(0, .ref a0), (1, .int x1), (2, .int x2), (3, .int j17_L3)] → W p l e R s m ([.ref a0, .int x1, .int x2] : List Value).toArray below meth c H locs 0 0 Q (F0 m 17 ls []) := by
    intro n
    induction n with
    | zero => intro j17_L3 H locs ls hm; exact absurd hm (Nat.not_lt_zero _)
    | succ n ih =>
      intro j17_L3 H locs ls hm hj17_L3 hT hS hl
      refine lv_iload_n hx hb dX5_begin_17 rfl (lv_at hl 3 rfl) ?_
      refine lv_bipush (v := 60) hx hb dX5_begin_18 (by decide) ?_
      refine lv_icmp_ge (tgt := 36) hx hb dX5_begin_20 (by decide) (fun c20 => ?_) (fun c20 => ?_)
      · skip
        have kl60 : (60 : Int32).toInt = 60 := by decide
        have f20 := i_le c20
        have hj17_L3_20r : iv j17_L3 60 60 := iv_ler (iv_c (x := (60 : Int32)) (k := 60) (by decide)) hj17_L3 c20 (by decide)
        exact ret _ _ _ _ dX5_begin_36 (hT) hS
      · skip
        have kl60 : (60 : Int32).toInt = 60 := by decide
        have f20 := i_nle c20
        have hj17_L3_20l : iv j17_L3 0 59 := iv_ltl hj17_L3 (iv_c (x := (60 : Int32)) (k := 60) (by decide)) (Int32.not_le.mp c20) (by decide)
        refine lv_aload_n hx hb dX5_begin_23 rfl (lv_at hl 0 rfl) ?_
        refine ti_getr hx hb hts inlX5 hown hK hT ha0 rfl rfl 3 (by decide) (hts _ kw_125) (fun _ h9 => h9) rfl dX5_begin_24 (fun v24 hv24 => ?_)
        refine lv_iload_n hx hb dX5_begin_27 rfl (lv_at hl 3 rfl) ?_
        refine lv_lconst (v := 0) hx hb dX5_begin_28 (by decide) ?_
        have kj0 : (0 : Int64).toInt = 0 := by decide
        refine ti_last hx hb (aT3 hK) hT hS hv24 rfl hj17_L3_20l (by decide) (fun _ _ _ => rfl)  dX5_begin_29 (fun H locs hT hS => ?_)
        obtain ⟨v30, e30⟩ : ∃ y : Int32, y = j17_L3 + 1 := ⟨_, rfl⟩
        have hv30 : iv v30 1 60 := by rw [e30]; exact iv_w (iv_add hj17_L3_20l (iv_c (x := (1 : Int32)) (k := 1) (by decide)) (by decide)) (by decide)
        have s30 : v30.toInt = j17_L3.toInt + 1 := by rw [e30, iv_addE hj17_L3_20l (iv_c (x := (1 : Int32)) (k := 1) (by decide)) (by decide)]; rfl
        refine lv_iinc (v := v30) (lv' := [(3, .int v30), (0, .ref a0), (1, .int x1), (2, .int x2)]) hx hb dX5_begin_30 hl (k := 3) rfl (by rw [e30]; rfl) (by decide) rfl (fun ls hl => ?_)
        refine lv_goto (tgt := 17) hx hb dX5_begin_33 (by decide) ?_
        exact ih v30 _ _ _ (ms_up hm (by have := s30; omega) (iv_w (c := 1) (d := 60) hv30 (by decide)).2) (iv_w hv30 (by decide)) hT hS (lv_sub hl [1, 2, 3, 0] rfl)
  refine lv_istore_n (lv' := [(3, .int (0 : Int32)), (0, .ref a0), (1, .int x1), (2, .int x2)]) hx hb dX5_begin_16 rfl hl (by decide) rfl (fun ls hl => ?_)
  exact J17 _ (0 : Int32) _ _ _ (Nat.lt_succ_self _) (iv_w (iv_c (x := (0 : Int32)) (k := 0) (by decide)) (by decide)) hT hS (lv_sub hl [1, 2, 3, 0] rfl)
set_option maxHeartbeats 4000000 in
set_option maxRecDepth 100000 in
theorem t_X10_in (l : Launch) {D : va_G} {c0 : Nat → ClassId} {Y : Nat → Option Nat} {b : Bool} {H : Heap} (hT : TI D vwCl (tysOf c0) (RT1 b) Y H) {x0 : Int64} (hx0 : jv x0 (-9223372036854775808) 9223372036854775807) {x1 : Int64} (hx1 : jv x1 (-9223372036854775808) 9223372036854775807) {x2 : Int64} (hx2 : jv x2 (-9223372036854775808) 9223372036854775807) : Met l yX10_in (wz yX10_in cX10_in 6 (some .boolean)) { frames := 0, cells := 0, slots := 0, locals := 0 } (TP D vwCl (tysOf c0) H [.long x0, .long x1, .long x2]) (TQi (fun x H' => H' = H ∧ iv x 0 1 ∧ ((x.toInt = 1 ∧ x1.toInt ≤ x0.toInt ∧ x0.toInt ≤ x2.toInt) ∨ (x.toInt = 0 ∧ (x0.toInt < x1.toInt ∨ x2.toInt < x0.toInt)))) Y) 0 0 (pA Y) := by
  refine Met.ofW (cc := cX10_in) (maxL := 6) (ret := (some .boolean)) (by decide) rfl ?_
  intro p e s m args below meth c s₁ B hml hv
  obtain ⟨rfl, rfl, hK⟩ := hv
  have hx := B.exec
  have hb := B.bytes
  have hr := B.returns
  have hts : ∀ w ∈ wq, w.before _ s = true := fun w h => atoms_spec (ws := wz yX10_in cX10_in 6 (some .boolean)) B.pre w (List.mem_cons_of_mem _ h)
  have hown : s.vm.findClass RX10 = some m.cls := findClass_of_methodNamed B.named
  have hlocks := B.notSynchronized
  obtain ⟨R, hR⟩ : ∃ R : Room, R = ({ frames := 0, cells := 0, slots := 0, locals := 0 } : Room) := ⟨_, rfl⟩
  rw [show (headSpec (wz yX10_in cX10_in 6 (some .boolean)) { frames := 0, cells := 0, slots := 0, locals := 0 }).room = R from hR.symm]
  refine ti_mz hx hb hr hlocks (fun Q ret => ?_)
  have hl := lv_entry [.long x0, .long x1, .long x2] (n := 6) (Nat.le_of_ble_eq_true rfl)
  rw [lg_entry_eq]
  generalize (lg_sl [.long x0, .long x1, .long x2] ++ List.replicate (6 - (lg_sl [.long x0, .long x1, .long x2]).length) Slot.unset).toArray = ls at hl ⊢
  have hl : lv_has ls 6 [(0, .long x0), (2, .long x1), (4, .long x2)] := hl
  have hS : va_S (pA Y) s.heap s.heap [] := va_S.rf
  refine lv_lload_n hx hb dX10_in_0 rfl (lv_at hl 0 rfl) ?_
  refine lv_lload_n hx hb dX10_in_1 rfl (lv_at hl 1 rfl) ?_
  refine W.lcmp hx hb dX10_in_2 ?_
  refine lv_if_lt (tgt := 17) hx hb dX10_in_3 (by decide) (fun c3 => ?_) (fun c3 => ?_)
  · skip
    have kl0 : (0 : Int32).toInt = 0 := by decide
    have f3 := jc_lt c3
    have hx0_3a : jv x0 (-9223372036854775808) 9223372036854775806 := by have b0a := (hx0).1; have b0b := (hx0).2; have b1a := (hx1).1; have b1b := (hx1).2; exact ⟨by omega, by omega⟩
    have hx1_3b : jv x1 (-9223372036854775807) 9223372036854775807 := by have b0a := (hx0_3a).1; have b0b := (hx0_3a).2; have b1a := (hx1).1; have b1b := (hx1).2; exact ⟨by omega, by omega⟩
    refine lv_iconst (v := 0) hx hb dX10_in_17 (by decide) ?_
    exact ret _ _ _ _ _ dX10_in_18 (iv_w (iv_c (x := (0 : Int32)) (k := 0) (by decide)) (by decide)) (⟨rfl, iv_w (iv_c (x := (0 : Int32)) (k := 0) (by decide)) (by decide), by have b0a := (hx0_3a).1; have b0b := (hx0_3a).2; have b1a := (hx1_3b).1; have b1b := (hx1_3b).2; have b2a := (hx2).1; have b2b := (hx2).2; omega⟩) hS
  · skip
    have kl0 : (0 : Int32).toInt = 0 := by decide
    have f3 := jc_nlt c3
    refine lv_lload_n hx hb dX10_in_6 rfl (lv_at hl 0 rfl) ?_
    refine lv_lload hx hb dX10_in_7 (lv_at hl 2 rfl) ?_
    refine W.lcmp hx hb dX10_in_9 ?_
    refine lv_if_gt (tgt := 17) hx hb dX10_in_10 (by decide) (fun c10 => ?_) (fun c10 => ?_)
    · skip
      have f10 := jc_gt c10
      have hx0_10a : jv x0 (-9223372036854775807) 9223372036854775807 := by have b0a := (hx0).1; have b0b := (hx0).2; have b1a := (hx2).1; have b1b := (hx2).2; exact ⟨by omega, by omega⟩
      have hx2_10b : jv x2 (-9223372036854775808) 9223372036854775806 := by have b0a := (hx0_10a).1; have b0b := (hx0_10a).2; have b1a := (hx2).1; have b1b := (hx2).2; exact ⟨by omega, by omega⟩
      refine lv_iconst (v := 0) hx hb dX10_in_17 (by decide) ?_
      exact ret _ _ _ _ _ dX10_in_18 (iv_w (iv_c (x := (0 : Int32)) (k := 0) (by decide)) (by decide)) (⟨rfl, iv_w (iv_c (x := (0 : Int32)) (k := 0) (by decide)) (by decide), by have b0a := (hx0_10a).1; have b0b := (hx0_10a).2; have b1a := (hx1).1; have b1b := (hx1).2; have b2a := (hx2_10b).1; have b2b := (hx2_10b).2; omega⟩) hS
    · skip
      have f10 := jc_ngt c10
      refine lv_iconst (v := 1) hx hb dX10_in_13 (by decide) ?_
      refine lv_goto (tgt := 18) hx hb dX10_in_14 (by decide) ?_
      have kl1 : (1 : Int32).toInt = 1 := by decide
      exact ret _ _ _ _ _ dX10_in_18 (iv_w (iv_c (x := (1 : Int32)) (k := 1) (by decide)) (by decide)) (⟨rfl, iv_w (iv_c (x := (1 : Int32)) (k := 1) (by decide)) (by decide), by have b0a := (hx0).1; have b0b := (hx0).2; have b1a := (hx1).1; have b1b := (hx1).2; have b2a := (hx2).1; have b2b := (hx2).2; omega⟩) hS
set_option maxHeartbeats 4000000 in
set_option maxRecDepth 100000 in
theorem t_X10_people (l : Launch) {D : va_G} {c0 : Nat → ClassId} {Y : Nat → Option Nat} {b : Bool} {H : Heap} (hT : TI D vwCl (tysOf c0) (RT1 b) Y H) {a0 : Nat} (ha0 : Y a0 = some 10) : Met l yX10_people (wz yX10_people cX10_people 1 (some .int)) { frames := 0, cells := 0, slots := 0, locals := 0 } (TP D vwCl (tysOf c0) H [.ref a0]) (TQi (fun x H' => H' = H ∧ iv x 0 0) Y) 0 0 (pA Y) := by
  refine Met.ofW (cc := cX10_people) (maxL := 1) (ret := (some .int)) (by decide) rfl ?_
  intro p e s m args below meth c s₁ B hml hv
  obtain ⟨rfl, rfl, hK⟩ := hv
  have hx := B.exec
  have hb := B.bytes
  have hr := B.returns
  have hts : ∀ w ∈ wq, w.before _ s = true := fun w h => atoms_spec (ws := wz yX10_people cX10_people 1 (some .int)) B.pre w (List.mem_cons_of_mem _ h)
  have hown : s.vm.findClass RX10 = some m.cls := findClass_of_methodNamed B.named
  have hlocks := B.notSynchronized
  obtain ⟨R, hR⟩ : ∃ R : Room, R = ({ frames := 0, cells := 0, slots := 0, locals := 0 } : Room) := ⟨_, rfl⟩
  rw [show (headSpec (wz yX10_people cX10_people 1 (some .int)) { frames := 0, cells := 0, slots := 0, locals := 0 }).room = R from hR.symm]
  refine ti_mi hx hb hr hlocks (fun Q ret => ?_)
  have hl := lv_entry [.ref a0] (n := 1) (Nat.le_of_ble_eq_true rfl)
  rw [lg_entry_eq]
  generalize (lg_sl [.ref a0] ++ List.replicate (1 - (lg_sl [.ref a0]).length) Slot.unset).toArray = ls at hl ⊢
  have hl : lv_has ls 1 [(0, .ref a0)] := hl
  have hS : va_S (pA Y) s.heap s.heap [] := va_S.rf
  refine lv_aload_n hx hb dX10_people_0 rfl (lv_at hl 0 rfl) ?_
  refine ti_getr hx hb hts inlX10 hown hK hT ha0 rfl rfl 1 (by decide) (hts _ kw_130) (fun _ h9 => h9) rfl dX10_people_1 (fun v1 hv1 => ?_)
  refine lv_bipush (v := 7) hx hb dX10_people_4 (by decide) ?_
  refine ti_iald (lo := 0) (hi := 0) hx hb (aT0 hK) hT hv1 rfl (iv_c (x := (7 : Int32)) (k := 7) (by decide)) (by decide) (one_j 7 rfl rfl (by decide) (by decide)) dX10_people_6 (fun v6 hv6 => ?_)
  exact ret _ _ _ _ _ dX10_people_7 (⟨rfl, iv_w hv6 (by decide)⟩) hS
set_option maxHeartbeats 4000000 in
set_option maxRecDepth 100000 in
theorem t_X10_isPerson (l : Launch) {D : va_G} {c0 : Nat → ClassId} {Y : Nat → Option Nat} {b : Bool} {H : Heap} (hT : TI D vwCl (tysOf c0) (RT1 b) Y H) {a0 : Nat} (ha0 : Y a0 = some 10) {x1 : Int32} (hx1 : iv x1 (-2147483648) 2147483647) : Met l yX10_isPerson (wz yX10_isPerson cX10_isPerson 2 (some .boolean)) { frames := 1, cells := 0, slots := 0, locals := 25 } (TP D vwCl (tysOf c0) H [.ref a0, .int x1]) (TQi (fun x H' => H' = H ∧ iv x 0 0) Y) 0 0 (pA Y) := by
  refine Met.ofW (cc := cX10_isPerson) (maxL := 2) (ret := (some .boolean)) (by decide) rfl ?_
  intro p e s m args below meth c s₁ B hml hv
  obtain ⟨rfl, rfl, hK⟩ := hv
  have hx := B.exec
  have hb := B.bytes
  have hr := B.returns
  have hts : ∀ w ∈ wq, w.before _ s = true := fun w h => atoms_spec (ws := wz yX10_isPerson cX10_isPerson 2 (some .boolean)) B.pre w (List.mem_cons_of_mem _ h)
  have hown : s.vm.findClass RX10 = some m.cls := findClass_of_methodNamed B.named
  have hlocks := B.notSynchronized
  obtain ⟨R, hR⟩ : ∃ R : Room, R = ({ frames := 1, cells := 0, slots := 0, locals := 25 } : Room) := ⟨_, rfl⟩
  rw [show (headSpec (wz yX10_isPerson cX10_isPerson 2 (some .boolean)) { frames := 1, cells := 0, slots := 0, locals := 25 }).room = R from hR.symm]
  refine ti_mz hx hb hr hlocks (fun Q ret => ?_)
  have hl := lv_entry [.ref a0, .int x1] (n := 2) (Nat.le_of_ble_eq_true rfl)
  rw [lg_entry_eq]
  generalize (lg_sl [.ref a0, .int x1] ++ List.replicate (2 - (lg_sl [.ref a0, .int x1]).length) Slot.unset).toArray = ls at hl ⊢
  have hl : lv_has ls 2 [(0, .ref a0), (1, .int x1)] := hl
  have hS : va_S (pA Y) s.heap s.heap [] := va_S.rf
  refine lv_iload_n hx hb dX10_isPerson_0 rfl (lv_at hl 1 rfl) ?_
  refine lv_i2l hx hb dX10_isPerson_1 rfl ?_
  refine lv_topl (fun v1 e1 => ?_)
  have hv1 : jv v1 (-2147483648) 2147483647 := by rw [e1]; exact jv_i hx1
  have t1 : v1.toInt = x1.toInt := by rw [e1]; exact jv_e _
  refine lv_lconst (v := 0) hx hb dX10_isPerson_2 (by decide) ?_
  have kj0 : (0 : Int64).toInt = 0 := by decide
  refine lv_aload_n hx hb dX10_isPerson_3 rfl (lv_at hl 0 rfl) ?_
  refine ti_getr hx hb hts inlX10 hown hK hT ha0 rfl rfl 1 (by decide) (hts _ kw_130) (fun _ h9 => h9) rfl dX10_isPerson_4 (fun v4 hv4 => ?_)
  refine lv_bipush (v := 7) hx hb dX10_isPerson_7 (by decide) ?_
  refine ti_iald (lo := 0) (hi := 0) hx hb (aT0 hK) hT hv4 rfl (iv_c (x := (7 : Int32)) (k := 7) (by decide)) (by decide) (one_j 7 rfl rfl (by decide) (by decide)) dX10_isPerson_9 (fun v9 hv9 => ?_)
  refine lv_iconst (v := 1) hx hb dX10_isPerson_10 (by decide) ?_
  refine lv_isub hx hb dX10_isPerson_11 ?_
  refine lv_topi (fun v11 e11 => ?_)
  have hv11 : iv v11 (-1) (-1) := by rw [e11]; exact iv_w (iv_sub hv9 (iv_c (x := (1 : Int32)) (k := 1) (by decide)) (by decide)) (by decide)
  have s11 : v11.toInt = v9.toInt - (1 : Int32).toInt := by rw [e11]; exact iv_subE hv9 (iv_c (x := (1 : Int32)) (k := 1) (by decide)) (by decide)
  refine lv_i2l hx hb dX10_isPerson_12 rfl ?_
  refine lv_topl (fun v12 e12 => ?_)
  have hv12 : jv v12 (-1) (-1) := by rw [e12]; exact jv_i hv11
  have t12 : v12.toInt = v11.toInt := by rw [e12]; exact jv_e _
  refine ti_calli (va_runS (As := [.long v1, .long (0 : Int64), .long v12]) (rest := []) ⟨hx, hb, hml, hown, hts⟩ (t_X10_in l hT (jv_w hv1 (by decide)) (jv_w (jv_c (x := (0 : Int64)) (k := 0) (by decide)) (by decide)) (jv_w hv12 (by decide))) (cwS 3 hts (good_S kw_181 kw_182 kw_5 kw_183) rfl rfl rfl (by decide +kernel) ⟨by rw [hR]; decide, by rw [hR]; decide⟩) (ti_preS hK) rfl rfl hl.1 rfl (lv_room (Nat.le_of_ble_eq_true rfl)) dX10_isPerson_13 ⟨Nat.zero_le _, Nat.zero_le _⟩) hS (fun _ h => h) (fun v13 H1 locs hB hS _ _ => ?_)
  obtain ⟨hH, hv13, hp13⟩ := hB
  rw [hH] at hS ⊢
  exact ret _ _ _ _ _ dX10_isPerson_16 (iv_w hv13 (by decide)) (⟨rfl, by have b0a := (hx1).1; have b0b := (hx1).2; have b1a := (hv1).1; have b1b := (hv1).2; have b2a := (hv9).1; have b2b := (hv9).2; have b3a := (hv11).1; have b3b := (hv11).2; have b4a := (hv12).1; have b4b := (hv12).2; have b5a := (hv13).1; have b5b := (hv13).2; exact ⟨by omega, by omega⟩⟩) hS
set_option maxHeartbeats 4000000 in
set_option maxRecDepth 100000 in
theorem t_X10_areTwo (l : Launch) {D : va_G} {c0 : Nat → ClassId} {Y : Nat → Option Nat} {b : Bool} {H : Heap} (hT : TI D vwCl (tysOf c0) (RT1 b) Y H) {a0 : Nat} (ha0 : Y a0 = some 10) {x1 : Int32} (hx1 : iv x1 (-2147483648) 2147483647) {x2 : Int32} (hx2 : iv x2 (-2147483648) 2147483647) : Met l yX10_areTwo (wz yX10_areTwo cX10_areTwo 3 (some .boolean)) { frames := 2, cells := 0, slots := 0, locals := 46 } (TP D vwCl (tysOf c0) H [.ref a0, .int x1, .int x2]) (TQi (fun x H' => H' = H ∧ iv x 0 0) Y) 0 0 (pA Y) := by
  refine Met.ofW (cc := cX10_areTwo) (maxL := 3) (ret := (some .boolean)) (by decide) rfl ?_
  intro p e s m args below meth c s₁ B hml hv
  obtain ⟨rfl, rfl, hK⟩ := hv
  have hx := B.exec
  have hb := B.bytes
  have hr := B.returns
  have hts : ∀ w ∈ wq, w.before _ s = true := fun w h => atoms_spec (ws := wz yX10_areTwo cX10_areTwo 3 (some .boolean)) B.pre w (List.mem_cons_of_mem _ h)
  have hown : s.vm.findClass RX10 = some m.cls := findClass_of_methodNamed B.named
  have hlocks := B.notSynchronized
  obtain ⟨R, hR⟩ : ∃ R : Room, R = ({ frames := 2, cells := 0, slots := 0, locals := 46 } : Room) := ⟨_, rfl⟩
  rw [show (headSpec (wz yX10_areTwo cX10_areTwo 3 (some .boolean)) { frames := 2, cells := 0, slots := 0, locals := 46 }).room = R from hR.symm]
  refine ti_mz hx hb hr hlocks (fun Q ret => ?_)
  have hl := lv_entry [.ref a0, .int x1, .int x2] (n := 3) (Nat.le_of_ble_eq_true rfl)
  rw [lg_entry_eq]
  generalize (lg_sl [.ref a0, .int x1, .int x2] ++ List.replicate (3 - (lg_sl [.ref a0, .int x1, .int x2]).length) Slot.unset).toArray = ls at hl ⊢
  have hl : lv_has ls 3 [(0, .ref a0), (1, .int x1), (2, .int x2)] := hl
  have hS : va_S (pA Y) s.heap s.heap [] := va_S.rf
  refine lv_aload_n hx hb dX10_areTwo_0 rfl (lv_at hl 0 rfl) ?_
  refine lv_iload_n hx hb dX10_areTwo_1 rfl (lv_at hl 1 rfl) ?_
  refine ti_calli (va_runV (As := [.int x1]) (rest := []) ⟨hx, hb, hml, hown, hts⟩ (t_X10_isPerson l hT ha0 (iv_w hx1 (by decide))) (cwV 1 hts (good_V kw_486 kw_487 kw_488 kw_5 kw_489) rfl rfl rfl (by decide +kernel) ⟨by rw [hR]; decide, by rw [hR]; decide⟩) (ti_preV hK hT ha0 rfl rfl) rfl rfl hl.1 rfl (lv_room (Nat.le_of_ble_eq_true rfl)) dX10_areTwo_2 ⟨Nat.zero_le _, Nat.zero_le _⟩) hS (fun _ h => h) (fun v2 H1 locs hB hS _ _ => ?_)
  obtain ⟨hH, hv2⟩ := hB
  rw [hH] at hS ⊢
  refine lv_if_eq (tgt := 25) hx hb dX10_areTwo_5 (by decide) (fun c5 => ?_) (fun c5 => ?_)
  · skip
    have kl0 : (0 : Int32).toInt = 0 := by decide
    have f5 := i_eq c5
    refine lv_iconst (v := 0) hx hb dX10_areTwo_25 (by decide) ?_
    exact ret _ _ _ _ _ dX10_areTwo_26 (iv_w (iv_c (x := (0 : Int32)) (k := 0) (by decide)) (by decide)) (⟨rfl, iv_w (iv_c (x := (0 : Int32)) (k := 0) (by decide)) (by decide)⟩) hS
  · skip
    have kl0 : (0 : Int32).toInt = 0 := by decide
    have f5 := i_ne c5
    exact (iv_no (show iv v2 1 (-1) from iv_nel hv2 (iv_c (x := (0 : Int32)) (k := 0) (by decide)) c5 (by decide)) (by decide)).elim
set_option maxHeartbeats 4000000 in
set_option maxRecDepth 100000 in
theorem t_X10_isSlot (l : Launch) {D : va_G} {c0 : Nat → ClassId} {Y : Nat → Option Nat} {b : Bool} {H : Heap} (hT : TI D vwCl (tysOf c0) (RT1 b) Y H) {x0 : Int32} (hx0 : iv x0 (-2147483648) 2147483647) : Met l yX10_isSlot (wz yX10_isSlot cX10_isSlot 1 (some .boolean)) { frames := 1, cells := 0, slots := 0, locals := 25 } (TP D vwCl (tysOf c0) H [.int x0]) (TQi (fun x H' => H' = H ∧ iv x 0 1 ∧ ((x.toInt = 1 ∧ 0 ≤ x0.toInt ∧ x0.toInt ≤ 3) ∨ (x.toInt = 0 ∧ (x0.toInt < 0 ∨ 3 < x0.toInt)))) Y) 0 0 (pA Y) := by
  refine Met.ofW (cc := cX10_isSlot) (maxL := 1) (ret := (some .boolean)) (by decide) rfl ?_
  intro p e s m args below meth c s₁ B hml hv
  obtain ⟨rfl, rfl, hK⟩ := hv
  have hx := B.exec
  have hb := B.bytes
  have hr := B.returns
  have hts : ∀ w ∈ wq, w.before _ s = true := fun w h => atoms_spec (ws := wz yX10_isSlot cX10_isSlot 1 (some .boolean)) B.pre w (List.mem_cons_of_mem _ h)
  have hown : s.vm.findClass RX10 = some m.cls := findClass_of_methodNamed B.named
  have hlocks := B.notSynchronized
  obtain ⟨R, hR⟩ : ∃ R : Room, R = ({ frames := 1, cells := 0, slots := 0, locals := 25 } : Room) := ⟨_, rfl⟩
  rw [show (headSpec (wz yX10_isSlot cX10_isSlot 1 (some .boolean)) { frames := 1, cells := 0, slots := 0, locals := 25 }).room = R from hR.symm]
  refine ti_mz hx hb hr hlocks (fun Q ret => ?_)
  have hl := lv_entry [.int x0] (n := 1) (Nat.le_of_ble_eq_true rfl)
  rw [lg_entry_eq]
  generalize (lg_sl [.int x0] ++ List.replicate (1 - (lg_sl [.int x0]).length) Slot.unset).toArray = ls at hl ⊢
  have hl : lv_has ls 1 [(0, .int x0)] := hl
  have hS : va_S (pA Y) s.heap s.heap [] := va_S.rf
  refine lv_iload_n hx hb dX10_isSlot_0 rfl (lv_at hl 0 rfl) ?_
  refine lv_i2l hx hb dX10_isSlot_1 rfl ?_
  refine lv_topl (fun v1 e1 => ?_)
  have hv1 : jv v1 (-2147483648) 2147483647 := by rw [e1]; exact jv_i hx0
  have t1 : v1.toInt = x0.toInt := by rw [e1]; exact jv_e _
  refine lv_lconst (v := 0) hx hb dX10_isSlot_2 (by decide) ?_
  have kj0 : (0 : Int64).toInt = 0 := by decide
  refine lv_ldc2 (v := 3) hx hb hown (hts _ kw_485) dX10_isSlot_3 ?_
  have kj3 : (3 : Int64).toInt = 3 := by decide
  refine ti_calli (va_runS (As := [.long v1, .long (0 : Int64), .long (3 : Int64)]) (rest := []) ⟨hx, hb, hml, hown, hts⟩ (t_X10_in l hT (jv_w hv1 (by decide)) (jv_w (jv_c (x := (0 : Int64)) (k := 0) (by decide)) (by decide)) (jv_w (jv_c (x := (3 : Int64)) (k := 3) (by decide)) (by decide))) (cwS 3 hts (good_S kw_181 kw_182 kw_5 kw_183) rfl rfl rfl (by decide +kernel) ⟨by rw [hR]; decide, by rw [hR]; decide⟩) (ti_preS hK) rfl rfl hl.1 rfl (lv_room (Nat.le_of_ble_eq_true rfl)) dX10_isSlot_6 ⟨Nat.zero_le _, Nat.zero_le _⟩) hS (fun _ h => h) (fun v6 H1 locs hB hS _ _ => ?_)
  obtain ⟨hH, hv6, hp6⟩ := hB
  rw [hH] at hS ⊢
  exact ret _ _ _ _ _ dX10_isSlot_9 (iv_w hv6 (by decide)) (⟨rfl, iv_w hv6 (by decide), by have b0a := (hx0).1; have b0b := (hx0).2; have b1a := (hv6).1; have b1b := (hv6).2; have b2a := (hv1).1; have b2b := (hv1).2; omega⟩) hS
set_option maxHeartbeats 4000000 in
set_option maxRecDepth 100000 in
theorem t_X10_isRun (l : Launch) {D : va_G} {c0 : Nat → ClassId} {Y : Nat → Option Nat} {b : Bool} {H : Heap} (hT : TI D vwCl (tysOf c0) (RT1 b) Y H) {a0 : Nat} (ha0 : Y a0 = some 10) {x1 : Int32} (hx1 : iv x1 (-2147483648) 2147483647) : Met l yX10_isRun (wz yX10_isRun cX10_isRun 2 (some .boolean)) { frames := 1, cells := 0, slots := 0, locals := 20 } (TP D vwCl (tysOf c0) H [.ref a0, .int x1]) (TQi (fun x H' => H' = H ∧ iv x 0 0) Y) 0 0 (pA Y) := by
  refine Met.ofW (cc := cX10_isRun) (maxL := 2) (ret := (some .boolean)) (by decide) rfl ?_
  intro p e s m args below meth c s₁ B hml hv
  obtain ⟨rfl, rfl, hK⟩ := hv
  have hx := B.exec
  have hb := B.bytes
  have hr := B.returns
  have hts : ∀ w ∈ wq, w.before _ s = true := fun w h => atoms_spec (ws := wz yX10_isRun cX10_isRun 2 (some .boolean)) B.pre w (List.mem_cons_of_mem _ h)
  have hown : s.vm.findClass RX10 = some m.cls := findClass_of_methodNamed B.named
  have hlocks := B.notSynchronized
  obtain ⟨R, hR⟩ : ∃ R : Room, R = ({ frames := 1, cells := 0, slots := 0, locals := 20 } : Room) := ⟨_, rfl⟩
  rw [show (headSpec (wz yX10_isRun cX10_isRun 2 (some .boolean)) { frames := 1, cells := 0, slots := 0, locals := 20 }).room = R from hR.symm]
  refine ti_mz hx hb hr hlocks (fun Q ret => ?_)
  have hl := lv_entry [.ref a0, .int x1] (n := 2) (Nat.le_of_ble_eq_true rfl)
  rw [lg_entry_eq]
  generalize (lg_sl [.ref a0, .int x1] ++ List.replicate (2 - (lg_sl [.ref a0, .int x1]).length) Slot.unset).toArray = ls at hl ⊢
  have hl : lv_has ls 2 [(0, .ref a0), (1, .int x1)] := hl
  have hS : va_S (pA Y) s.heap s.heap [] := va_S.rf
  refine lv_aload_n hx hb dX10_isRun_0 rfl (lv_at hl 0 rfl) ?_
  refine ti_calli (va_runV (As := []) (rest := []) ⟨hx, hb, hml, hown, hts⟩ (t_X10_people l hT ha0) (cwV 0 hts (good_V kw_605 kw_606 kw_607 kw_5 kw_608) rfl rfl rfl (by decide +kernel) ⟨by rw [hR]; decide, by rw [hR]; decide⟩) (ti_preV hK hT ha0 rfl rfl) rfl rfl hl.1 rfl (lv_room (Nat.le_of_ble_eq_true rfl)) dX10_isRun_1 ⟨Nat.zero_le _, Nat.zero_le _⟩) hS (fun _ h => h) (fun v1 H1 locs hB hS _ _ => ?_)
  obtain ⟨hH, hv1⟩ := hB
  rw [hH] at hS ⊢
  refine lv_if_le (tgt := 23) hx hb dX10_isRun_4 (by decide) (fun c4 => ?_) (fun c4 => ?_)
  · skip
    have kl0 : (0 : Int32).toInt = 0 := by decide
    have f4 := i_le c4
    refine lv_iconst (v := 0) hx hb dX10_isRun_23 (by decide) ?_
    exact ret _ _ _ _ _ dX10_isRun_24 (iv_w (iv_c (x := (0 : Int32)) (k := 0) (by decide)) (by decide)) (⟨rfl, iv_w (iv_c (x := (0 : Int32)) (k := 0) (by decide)) (by decide)⟩) hS
  · skip
    have kl0 : (0 : Int32).toInt = 0 := by decide
    have f4 := i_nle c4
    exact (iv_no (show iv (0 : Int32) 0 (-1) from iv_ltl (iv_c (x := (0 : Int32)) (k := 0) (by decide)) hv1 (Int32.not_le.mp c4) (by decide)) (by decide)).elim
