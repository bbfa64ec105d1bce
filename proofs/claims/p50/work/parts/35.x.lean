set_option maxHeartbeats 4000000 in
set_option maxRecDepth 100000 in
theorem t_X9_seed_x (l : Launch) {D : va_G} {c0 : Nat → ClassId} {Y : Nat → Option Nat} {ν : Nat → Nat} {H : Heap} (hT : TI D vwCl (tysOf c0) (RTg ν) Y H) {a0 : Nat} (ha0 : Y a0 = some 9) {x1 : Int32} (hx1 : iv x1 (-2147483648) 2147483647) : Met l yX9_seed (wz yX9_seed cX9_seed 2 (some .int)) { frames := 0, cells := 0, slots := 0, locals := 0 } (TP D vwCl (tysOf c0) H [.ref a0, .int x1]) (TQi (fun x H' => TI D vwCl (tysOf c0) (RTg ν) Y H' ∧ iv x (-2) 0 ∧ ((((0 ≤ x1.toInt ∧ x1.toInt ≤ 2000000000) ∧ x.toInt = 0) ∨ (¬ (0 ≤ x1.toInt ∧ x1.toInt ≤ 2000000000) ∧ x.toInt = -2)))) Y [7]) 0 0 (pW Y [7]) := by
  refine Met.ofW (cc := cX9_seed) (maxL := 2) (ret := (some .int)) (by decide) rfl ?_
  intro p e s m args below meth c s₁ B hml hv
  obtain ⟨rfl, rfl, hK⟩ := hv
  have hx := B.exec
  have hb := B.bytes
  have hr := B.returns
  have hts : ∀ w ∈ wq, w.before _ s = true := fun w h => atoms_spec (ws := wz yX9_seed cX9_seed 2 (some .int)) B.pre w (List.mem_cons_of_mem _ h)
  have hown : s.vm.findClass RX9 = some m.cls := findClass_of_methodNamed B.named
  have hlocks := B.notSynchronized
  obtain ⟨R, hR⟩ : ∃ R : Room, R = ({ frames := 0, cells := 0, slots := 0, locals := 0 } : Room) := ⟨_, rfl⟩
  rw [show (headSpec (wz yX9_seed cX9_seed 2 (some .int)) { frames := 0, cells := 0, slots := 0, locals := 0 }).room = R from hR.symm]
  refine ti_mi hx hb hr hlocks (fun Q ret => ?_)
  have hl := lv_entry [.ref a0, .int x1] (n := 2) (Nat.le_of_ble_eq_true rfl)
  rw [lg_entry_eq]
  generalize (lg_sl [.ref a0, .int x1] ++ List.replicate (2 - (lg_sl [.ref a0, .int x1]).length) Slot.unset).toArray = ls at hl ⊢
  have hl : lv_has ls 2 [(0, .ref a0), (1, .int x1)] := hl
  refine ti_gen (P := fun H => TI D vwCl (tysOf c0) (RTg ν) Y H) (Y := Y) (ws := [7]) hT (fun H locs hT hS => ?_)
  refine lv_iload_n hx hb dX9_seed_0 rfl (lv_at hl 1 rfl) ?_
  refine lv_if_lt (tgt := 11) hx hb dX9_seed_1 (by decide) (fun c1 => ?_) (fun c1 => ?_)
  · skip
    have kl0 : (0 : Int32).toInt = 0 := by decide
    have f1 := i_lt c1
    have hx1_1l : iv x1 (-2147483648) (-1) := iv_ltl hx1 (iv_c (x := (0 : Int32)) (k := 0) (by decide)) c1 (by decide)
    refine lv_bipush (v := (-2)) hx hb dX9_seed_11 (by decide) ?_
    have klm2 : (-2 : Int32).toInt = (-2) := by decide
    exact ret _ _ _ _ _ dX9_seed_13 (⟨hT, iv_w (iv_c (x := (-2 : Int32)) (k := (-2)) (by decide)) (by decide), by have b0a := (hx1_1l).1; have b0b := (hx1_1l).2; omega⟩) hS
  · skip
    have kl0 : (0 : Int32).toInt = 0 := by decide
    have f1 := i_nlt c1
    have hx1_1r : iv x1 0 2147483647 := iv_ler (iv_c (x := (0 : Int32)) (k := 0) (by decide)) hx1 (Int32.not_lt.mp c1) (by decide)
    refine lv_iload_n hx hb dX9_seed_4 rfl (lv_at hl 1 rfl) ?_
    refine lv_ldcw (v := 2000000000) hx hb hown (hts _ kw_1493) dX9_seed_5 ?_
    refine lv_icmp_le (tgt := 14) hx hb dX9_seed_8 (by decide) (fun c8 => ?_) (fun c8 => ?_)
    · skip
      have kl2000000000 : (2000000000 : Int32).toInt = 2000000000 := by decide
      have f8 := i_le c8
      have hx1_8l : iv x1 0 2000000000 := iv_lel hx1_1r (iv_c (x := (2000000000 : Int32)) (k := 2000000000) (by decide)) c8 (by decide)
      refine lv_aload_n hx hb dX9_seed_14 rfl (lv_at hl 0 rfl) ?_
      refine ti_getr hx hb hts inlX9 hown hK hT ha0 rfl rfl rfl 1 (by decide) (hts _ kw_20) (fun _ h9 => h9) rfl dX9_seed_15 (fun v15 hv15 hm15 => ?_)
      refine lv_iload_n hx hb dX9_seed_18 rfl (lv_at hl 1 rfl) ?_
      refine lv_i2l hx hb dX9_seed_19 rfl ?_
      refine lv_topl (fun v19 e19 => ?_)
      have hv19 : jv v19 0 2000000000 := by rw [e19]; exact jv_i hx1_8l
      have t19 : v19.toInt = x1.toInt := by rw [e19]; exact jv_e _
      refine ti_put (ty := .long) hx hb hts inlX7 tyX7 tyX7_ok nmX7 hown hK hT hS hv15 rfl rfl rfl rfl 5 (by decide) (hts _ kw_1494) (fun _ h9 => h9) rfl rfl (by decide +kernel) rfl rfl ⟨v19, rfl⟩ (fun _ _ => trivial) dX9_seed_20 (fun H locs hT hS oq20 he20 hk20 => ?_)
      refine lv_iconst (v := 0) hx hb dX9_seed_23 (by decide) ?_
      exact ret _ _ _ _ _ dX9_seed_24 (⟨hT, iv_w (iv_c (x := (0 : Int32)) (k := 0) (by decide)) (by decide), by have b0a := (hx1_8l).1; have b0b := (hx1_8l).2; have b1a := (hv19).1; have b1b := (hv19).2; omega⟩) hS
    · skip
      have kl2000000000 : (2000000000 : Int32).toInt = 2000000000 := by decide
      have f8 := i_nle c8
      have hx1_8r : iv x1 2000000001 2147483647 := iv_ltr (iv_c (x := (2000000000 : Int32)) (k := 2000000000) (by decide)) hx1_1r (Int32.not_le.mp c8) (by decide)
      refine lv_bipush (v := (-2)) hx hb dX9_seed_11 (by decide) ?_
      have klm2 : (-2 : Int32).toInt = (-2) := by decide
      exact ret _ _ _ _ _ dX9_seed_13 (⟨hT, iv_w (iv_c (x := (-2 : Int32)) (k := (-2)) (by decide)) (by decide), by have b0a := (hx1_8r).1; have b0b := (hx1_8r).2; omega⟩) hS
set_option maxHeartbeats 4000000 in
set_option maxRecDepth 100000 in
theorem t_X10_in_x (l : Launch) {D : va_G} {c0 : Nat → ClassId} {Y : Nat → Option Nat} {ν : Nat → Nat} {H : Heap} (hT : TI D vwCl (tysOf c0) (RTg ν) Y H) {x0 : Int64} (hx0 : jv x0 (-9223372036854775808) 9223372036854775807) {x1 : Int64} (hx1 : jv x1 (-1) 97) {x2 : Int64} (hx2 : jv x2 (-2147483648) 2000000000) : Met l yX10_in (wz yX10_in cX10_in 6 (some .boolean)) { frames := 0, cells := 0, slots := 0, locals := 0 } (TP D vwCl (tysOf c0) H [.long x0, .long x1, .long x2]) (TQi (fun x H' => H' = H ∧ iv x 0 1 ∧ ((((x1.toInt ≤ x0.toInt ∧ x0.toInt ≤ x2.toInt) ∧ x.toInt = 1) ∨ (¬ (x1.toInt ≤ x0.toInt ∧ x0.toInt ≤ x2.toInt) ∧ x.toInt = 0)))) Y []) 0 0 (pW Y []) := by
  refine Met.ofW (cc := cX10_in) (maxL := 6) (ret := (some .boolean)) (by decide) rfl ?_
  intro p e s m args below meth c s₁ B hml hv
  obtain ⟨rfl, rfl, hK⟩ := hv
  have hx := B.exec
  have hb := B.bytes
  have hr := B.returns
  have hts : ∀ w ∈ wq, w.before _ s = true := fun w h => atoms_spec (ws := wz yX10_in cX10_in 6 (some .boolean)) B.pre w (List.mem_cons_of_mem _ h)
  have hown : s.vm.findClass RX10 = some m.cls := findClass_of_methodNamed B.named
  have hlocks := B.notSynchronized
  obtain ⟨R, hR⟩ : ∃ R : Room, R = ({ frames := 0, cells := 0, slots := 0, locals := 0 } : Room) := ⟨_, rfl⟩
  rw [show (headSpec (wz yX10_in cX10_in 6 (some .boolean)) { frames := 0, cells := 0, slots := 0, locals := 0 }).room = R from hR.symm]
  refine ti_mz hx hb hr hlocks (fun Q ret => ?_)
  have hl := lv_entry [.long x0, .long x1, .long x2] (n := 6) (Nat.le_of_ble_eq_true rfl)
  rw [lg_entry_eq]
  generalize (lg_sl [.long x0, .long x1, .long x2] ++ List.replicate (6 - (lg_sl [.long x0, .long x1, .long x2]).length) Slot.unset).toArray = ls at hl ⊢
  have hl : lv_has ls 6 [(0, .long x0), (2, .long x1), (4, .long x2)] := hl
  have hS : va_S (pW Y []) s.heap s.heap [] := va_S.rf
  refine lv_lload_n hx hb dX10_in_0 rfl (lv_at hl 0 rfl) ?_
  refine lv_lload_n hx hb dX10_in_1 rfl (lv_at hl 1 rfl) ?_
  refine W.lcmp hx hb dX10_in_2 ?_
  refine lv_if_lt (tgt := 17) hx hb dX10_in_3 (by decide) (fun c3 => ?_) (fun c3 => ?_)
  · skip
    have kl0 : (0 : Int32).toInt = 0 := by decide
    have f3 := jc_lt c3
    have hx0_3a : jv x0 (-9223372036854775808) 96 := by have b0a := (hx0).1; have b0b := (hx0).2; have b1a := (hx1).1; have b1b := (hx1).2; exact ⟨by omega, by omega⟩
    refine lv_iconst (v := 0) hx hb dX10_in_17 (by decide) ?_
    exact ret _ _ _ _ _ dX10_in_18 (iv_w (iv_c (x := (0 : Int32)) (k := 0) (by decide)) (by decide)) (⟨rfl, iv_w (iv_c (x := (0 : Int32)) (k := 0) (by decide)) (by decide), by have b0a := (hx0_3a).1; have b0b := (hx0_3a).2; have b1a := (hx1).1; have b1b := (hx1).2; have b2a := (hx2).1; have b2b := (hx2).2; omega⟩) hS
  · skip
    have kl0 : (0 : Int32).toInt = 0 := by decide
    have f3 := jc_nlt c3
    have hx0_3a : jv x0 (-1) 9223372036854775807 := by have b0a := (hx0).1; have b0b := (hx0).2; have b1a := (hx1).1; have b1b := (hx1).2; exact ⟨by omega, by omega⟩
    refine lv_lload_n hx hb dX10_in_6 rfl (lv_at hl 0 rfl) ?_
    refine lv_lload hx hb dX10_in_7 (lv_at hl 2 rfl) ?_
    refine W.lcmp hx hb dX10_in_9 ?_
    refine lv_if_gt (tgt := 17) hx hb dX10_in_10 (by decide) (fun c10 => ?_) (fun c10 => ?_)
    · skip
      have f10 := jc_gt c10
      refine lv_iconst (v := 0) hx hb dX10_in_17 (by decide) ?_
      exact ret _ _ _ _ _ dX10_in_18 (iv_w (iv_c (x := (0 : Int32)) (k := 0) (by decide)) (by decide)) (⟨rfl, iv_w (iv_c (x := (0 : Int32)) (k := 0) (by decide)) (by decide), by have b0a := (hx0_3a).1; have b0b := (hx0_3a).2; have b1a := (hx1).1; have b1b := (hx1).2; have b2a := (hx2).1; have b2b := (hx2).2; omega⟩) hS
    · skip
      have f10 := jc_ngt c10
      have hx0_10a : jv x0 (-1) 2000000000 := by have b0a := (hx0_3a).1; have b0b := (hx0_3a).2; have b1a := (hx2).1; have b1b := (hx2).2; exact ⟨by omega, by omega⟩
      have hx2_10b : jv x2 (-1) 2000000000 := by have b0a := (hx0_10a).1; have b0b := (hx0_10a).2; have b1a := (hx2).1; have b1b := (hx2).2; exact ⟨by omega, by omega⟩
      refine lv_iconst (v := 1) hx hb dX10_in_13 (by decide) ?_
      refine lv_goto (tgt := 18) hx hb dX10_in_14 (by decide) ?_
      have kl1 : (1 : Int32).toInt = 1 := by decide
      exact ret _ _ _ _ _ dX10_in_18 (iv_w (iv_c (x := (1 : Int32)) (k := 1) (by decide)) (by decide)) (⟨rfl, iv_w (iv_c (x := (1 : Int32)) (k := 1) (by decide)) (by decide), by have b0a := (hx0_10a).1; have b0b := (hx0_10a).2; have b1a := (hx1).1; have b1b := (hx1).2; have b2a := (hx2_10b).1; have b2b := (hx2_10b).2; omega⟩) hS
set_option maxHeartbeats 4000000 in
set_option maxRecDepth 100000 in
theorem t_X10_seed_x (l : Launch) {D : va_G} {c0 : Nat → ClassId} {Y : Nat → Option Nat} {ν : Nat → Nat} {H : Heap} (hT : TI D vwCl (tysOf c0) (RTg ν) Y H) {a0 : Nat} (ha0 : Y a0 = some 10) {x1 : Int32} (hx1 : iv x1 (-2147483648) 2147483647) (hU : uq Y) : Met l yX10_seed (wz yX10_seed cX10_seed 2 (some .int)) { frames := 1, cells := 0, slots := 0, locals := 25 } (TP D vwCl (tysOf c0) H [.ref a0, .int x1]) (TQi (fun x H' => TI D vwCl (tysOf c0) (RTg ν) Y H' ∧ iv x (-2) 0 ∧ ((((0 ≤ x1.toInt ∧ x1.toInt ≤ 2000000000) ∧ x.toInt = 0) ∨ (¬ (0 ≤ x1.toInt ∧ x1.toInt ≤ 2000000000) ∧ x.toInt = -2)))) Y [10]) 0 0 (pW Y [10]) := by
  refine Met.ofW (cc := cX10_seed) (maxL := 2) (ret := (some .int)) (by decide) rfl ?_
  intro p e s m args below meth c s₁ B hml hv
  obtain ⟨rfl, rfl, hK⟩ := hv
  have hx := B.exec
  have hb := B.bytes
  have hr := B.returns
  have hts : ∀ w ∈ wq, w.before _ s = true := fun w h => atoms_spec (ws := wz yX10_seed cX10_seed 2 (some .int)) B.pre w (List.mem_cons_of_mem _ h)
  have hown : s.vm.findClass RX10 = some m.cls := findClass_of_methodNamed B.named
  have hlocks := B.notSynchronized
  obtain ⟨R, hR⟩ : ∃ R : Room, R = ({ frames := 1, cells := 0, slots := 0, locals := 25 } : Room) := ⟨_, rfl⟩
  rw [show (headSpec (wz yX10_seed cX10_seed 2 (some .int)) { frames := 1, cells := 0, slots := 0, locals := 25 }).room = R from hR.symm]
  refine ti_mi hx hb hr hlocks (fun Q ret => ?_)
  have hl := lv_entry [.ref a0, .int x1] (n := 2) (Nat.le_of_ble_eq_true rfl)
  rw [lg_entry_eq]
  generalize (lg_sl [.ref a0, .int x1] ++ List.replicate (2 - (lg_sl [.ref a0, .int x1]).length) Slot.unset).toArray = ls at hl ⊢
  have hl : lv_has ls 2 [(0, .ref a0), (1, .int x1)] := hl
  refine ti_gen (P := fun H => TI D vwCl (tysOf c0) (RTg ν) Y H) (Y := Y) (ws := [10]) hT (fun H locs hT hS => ?_)
  refine lv_iload_n hx hb dX10_seed_0 rfl (lv_at hl 1 rfl) ?_
  refine lv_i2l hx hb dX10_seed_1 rfl ?_
  refine lv_topl (fun v1 e1 => ?_)
  have hv1 : jv v1 (-2147483648) 2147483647 := by rw [e1]; exact jv_i hx1
  have t1 : v1.toInt = x1.toInt := by rw [e1]; exact jv_e _
  refine lv_lconst (v := 0) hx hb dX10_seed_2 (by decide) ?_
  have kj0 : (0 : Int64).toInt = 0 := by decide
  refine lv_ldc2 (v := 2000000000) hx hb hown (hts _ kw_1499) dX10_seed_3 ?_
  have kj2000000000 : (2000000000 : Int64).toInt = 2000000000 := by decide
  refine ti_calli (va_runS (As := [.long v1, .long (0 : Int64), .long (2000000000 : Int64)]) (rest := []) ⟨hx, hb, hml, hown, hts⟩ (t_X10_in_x l hT (jv_w hv1 (by decide)) (jv_w (jv_c (x := (0 : Int64)) (k := 0) (by decide)) (by decide)) (jv_w (jv_c (x := (2000000000 : Int64)) (k := 2000000000) (by decide)) (by decide))) (cwS 3 hts (good_S kw_181 kw_182 kw_5 kw_183) rfl rfl rfl (by decide +kernel) ⟨by rw [hR]; decide, by rw [hR]; decide⟩) (ti_preS hK) rfl rfl hl.1 rfl (lv_room (Nat.le_of_ble_eq_true rfl)) dX10_seed_6 ⟨Nat.zero_le _, Nat.zero_le _⟩) hS (pW_sub rfl) (fun v6 H1 locs hB hS _ hk6 => ?_)
  obtain ⟨hH, hv6, hp6⟩ := hB
  rw [hH] at hS ⊢
  refine lv_if_ne (tgt := 15) hx hb dX10_seed_9 (by decide) (fun c9 => ?_) (fun c9 => ?_)
  · skip
    have kl0 : (0 : Int32).toInt = 0 := by decide
    have f9 := i_ne c9
    have hv6_9l : iv v6 1 1 := iv_nel hv6 (iv_c (x := (0 : Int32)) (k := 0) (by decide)) c9 (by decide)
    have hv1_9p : jv v1 0 2000000000 := by have b0a := (hv1).1; have b0b := (hv1).2; have b1a := ((jv_c (x := (0 : Int64)) (k := 0) (by decide))).1; have b1b := ((jv_c (x := (0 : Int64)) (k := 0) (by decide))).2; have b2a := ((jv_c (x := (2000000000 : Int64)) (k := 2000000000) (by decide))).1; have b2b := ((jv_c (x := (2000000000 : Int64)) (k := 2000000000) (by decide))).2; exact ⟨by omega, by omega⟩
    have hx1_9p : iv x1 0 2000000000 := by have := t1; have b0a := (hv1_9p).1; have b0b := (hv1_9p).2; have b1a := (hx1).1; have b1b := (hx1).2; exact ⟨by omega, by omega⟩
    refine lv_aload_n hx hb dX10_seed_15 rfl (lv_at hl 0 rfl) ?_
    refine lv_iload_n hx hb dX10_seed_16 rfl (lv_at hl 1 rfl) ?_
    refine lv_i2l hx hb dX10_seed_17 rfl ?_
    refine lv_topl (fun v17 e17 => ?_)
    have hv17 : jv v17 0 2000000000 := by rw [e17]; exact jv_i hx1_9p
    have t17 : v17.toInt = x1.toInt := by rw [e17]; exact jv_e _
    refine ti_put (ty := .long) hx hb hts inlX10 tyX10 tyX10_ok nmX10 hown hK hT hS ha0 rfl rfl rfl rfl 16 (by decide) (hts _ kw_382) (fun _ h9 => h9) rfl rfl (by decide +kernel) rfl rfl ⟨v17, rfl⟩ (fun _ _ => trivial) dX10_seed_18 (fun H locs hT hS oq18 he18 hk18 => ?_)
    refine lv_iconst (v := 0) hx hb dX10_seed_21 (by decide) ?_
    exact ret _ _ _ _ _ dX10_seed_22 (⟨hT, iv_w (iv_c (x := (0 : Int32)) (k := 0) (by decide)) (by decide), by have b0a := (hx1_9p).1; have b0b := (hx1_9p).2; have b1a := (hv1_9p).1; have b1b := (hv1_9p).2; have b2a := (hv6_9l).1; have b2b := (hv6_9l).2; have b3a := (hv17).1; have b3b := (hv17).2; omega⟩) hS
  · skip
    have kl0 : (0 : Int32).toInt = 0 := by decide
    have f9 := i_eq c9
    have hv6_9l : iv v6 0 0 := iv_eql hv6 (iv_c (x := (0 : Int32)) (k := 0) (by decide)) c9 (by decide)
    refine lv_bipush (v := (-2)) hx hb dX10_seed_12 (by decide) ?_
    have klm2 : (-2 : Int32).toInt = (-2) := by decide
    exact ret _ _ _ _ _ dX10_seed_14 (⟨hT, iv_w (iv_c (x := (-2 : Int32)) (k := (-2)) (by decide)) (by decide), by have b0a := (hx1).1; have b0b := (hx1).2; have b1a := (hv1).1; have b1b := (hv1).2; have b2a := (hv6_9l).1; have b2b := (hv6_9l).2; omega⟩) hS
