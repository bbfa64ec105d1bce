set_option maxHeartbeats 4000000 in
set_option maxRecDepth 100000 in
theorem t_X10_sight (l : Launch) {D : va_G} {c0 : Nat → ClassId} {Y : Nat → Option Nat} {ν : Nat → Nat} {H : Heap} (hT : TI D vwCl (tysOf c0) (RTg ν) Y H) {a0 : Nat} (ha0 : Y a0 = some 10) {x1 : Int32} (hx1 : iv x1 (-2147483648) 2147483647) {x2 : Int32} (hx2 : iv x2 (-2147483648) 2147483647) {x3 : Int32} (hx3 : iv x3 (-2147483648) 2147483647) (hU : uq Y) : Met l yX10_sight (wz yX10_sight cX10_sight 5 (some .int)) { frames := 3, cells := 0, slots := 0, locals := 68 } (TP D vwCl (tysOf c0) H [.ref a0, .int x1, .int x2, .int x3]) (TQi (fun x H' => TI D vwCl (tysOf c0) (RTg ν) Y H' ∧ iv x (-2) 30) Y [30]) 0 0 (pW Y [30]) := by
  refine Met.ofW (cc := cX10_sight) (maxL := 5) (ret := (some .int)) (by decide) rfl ?_
  intro p e s m args below meth c s₁ B hml hv
  obtain ⟨rfl, rfl, hK⟩ := hv
  have hx := B.exec
  have hb := B.bytes
  have hr := B.returns
  have hts : ∀ w ∈ wq, w.before _ s = true := fun w h => atoms_spec (ws := wz yX10_sight cX10_sight 5 (some .int)) B.pre w (List.mem_cons_of_mem _ h)
  have hown : s.vm.findClass RX10 = some m.cls := findClass_of_methodNamed B.named
  have hlocks := B.notSynchronized
  obtain ⟨R, hR⟩ : ∃ R : Room, R = ({ frames := 3, cells := 0, slots := 0, locals := 68 } : Room) := ⟨_, rfl⟩
  rw [show (headSpec (wz yX10_sight cX10_sight 5 (some .int)) { frames := 3, cells := 0, slots := 0, locals := 68 }).room = R from hR.symm]
  refine ti_mi hx hb hr hlocks (fun Q ret => ?_)
  have hl := lv_entry [.ref a0, .int x1, .int x2, .int x3] (n := 5) (Nat.le_of_ble_eq_true rfl)
  rw [lg_entry_eq]
  generalize (lg_sl [.ref a0, .int x1, .int x2, .int x3] ++ List.replicate (5 - (lg_sl [.ref a0, .int x1, .int x2, .int x3]).length) Slot.unset).toArray = ls at hl ⊢
  have hl : lv_has ls 5 [(0, .ref a0), (1, .int x1), (2, .int x2), (3, .int x3)] := hl
  refine ti_gen (P := fun H => TI D vwCl (tysOf c0) (RTg ν) Y H) (Y := Y) (ws := [30]) hT (fun H locs hT hS => ?_)
  refine lv_aload_n hx hb dX10_sight_0 rfl (lv_at hl 0 rfl) ?_
  refine lv_iload_n hx hb dX10_sight_1 rfl (lv_at hl 1 rfl) ?_
  refine lv_iload_n hx hb dX10_sight_2 rfl (lv_at hl 2 rfl) ?_
  refine ti_calli (va_runV (As := [.int x1, .int x2]) (rest := []) ⟨hx, hb, hml, hown, hts⟩ (t_X10_areTwo l hT ha0 (iv_w hx1 (by decide)) (iv_w hx2 (by decide)) hU) (cwV 2 hts (good_V kw_545 kw_546 kw_547 kw_5 kw_548) rfl rfl rfl (by decide +kernel) ⟨by rw [hR]; decide, by rw [hR]; decide⟩) (ti_preV hK hT ha0 rfl rfl) rfl rfl hl.1 rfl (lv_room (Nat.le_of_ble_eq_true rfl)) dX10_sight_3 ⟨Nat.zero_le _, Nat.zero_le _⟩) hS (pW_sub rfl) (fun v3 H1 locs hB hS _ hk3 => ?_)
  obtain ⟨hH, hv3, hp3⟩ := hB
  rw [hH] at hS ⊢
  refine lv_if_eq (tgt := 21) hx hb dX10_sight_6 (by decide) (fun c6 => ?_) (fun c6 => ?_)
  · skip
    have kl0 : (0 : Int32).toInt = 0 := by decide
    have f6 := i_eq c6
    have hv3_6l : iv v3 0 0 := iv_eql hv3 (iv_c (x := (0 : Int32)) (k := 0) (by decide)) c6 (by decide)
    refine lv_bipush (v := (-2)) hx hb dX10_sight_21 (by decide) ?_
    exact ret _ _ _ _ _ dX10_sight_23 (⟨hT, iv_w (iv_c (x := (-2 : Int32)) (k := (-2)) (by decide)) (by decide)⟩) hS
  · skip
    have kl0 : (0 : Int32).toInt = 0 := by decide
    have f6 := i_ne c6
    have hv3_6l : iv v3 1 1 := iv_nel hv3 (iv_c (x := (0 : Int32)) (k := 0) (by decide)) c6 (by decide)
    have hx1_6p : iv x1 0 7 := by have b0a := (hx1).1; have b0b := (hx1).2; exact ⟨by omega, by omega⟩
    have hx2_6p : iv x2 0 7 := by have b0a := (hx2).1; have b0b := (hx2).2; exact ⟨by omega, by omega⟩
    refine lv_iload_n hx hb dX10_sight_9 rfl (lv_at hl 3 rfl) ?_
    refine lv_i2l hx hb dX10_sight_10 rfl ?_
    refine lv_topl (fun v10 e10 => ?_)
    have hv10 : jv v10 (-2147483648) 2147483647 := by rw [e10]; exact jv_i hx3
    have t10 : v10.toInt = x3.toInt := by rw [e10]; exact jv_e _
    refine lv_lconst (v := 1) hx hb dX10_sight_11 (by decide) ?_
    have kj1 : (1 : Int64).toInt = 1 := by decide
    refine lv_ldc2 (v := 30) hx hb hown (hts _ kw_524) dX10_sight_12 ?_
    have kj30 : (30 : Int64).toInt = 30 := by decide
    refine ti_calli (va_runS (As := [.long v10, .long (1 : Int64), .long (30 : Int64)]) (rest := []) ⟨hx, hb, hml, hown, hts⟩ (t_X10_in l hT (jv_w hv10 (by decide)) (jv_w (jv_c (x := (1 : Int64)) (k := 1) (by decide)) (by decide)) (jv_w (jv_c (x := (30 : Int64)) (k := 30) (by decide)) (by decide))) (cwS 3 hts (good_S kw_181 kw_182 kw_5 kw_183) rfl rfl rfl (by decide +kernel) ⟨by rw [hR]; decide, by rw [hR]; decide⟩) (ti_preS hK) rfl rfl hl.1 rfl (lv_room (Nat.le_of_ble_eq_true rfl)) dX10_sight_15 ⟨Nat.zero_le _, Nat.zero_le _⟩) hS (pW_sub rfl) (fun v15 H1 locs hB hS _ hk15 => ?_)
    obtain ⟨hH, hv15, hp15⟩ := hB
    rw [hH] at hS ⊢
    refine lv_if_ne (tgt := 24) hx hb dX10_sight_18 (by decide) (fun c18 => ?_) (fun c18 => ?_)
    · skip
      have f18 := i_ne c18
      have hv15_18l : iv v15 1 1 := iv_nel hv15 (iv_c (x := (0 : Int32)) (k := 0) (by decide)) c18 (by decide)
      have hv10_18p : jv v10 1 30 := by have b0a := (hv10).1; have b0b := (hv10).2; have b1a := ((jv_c (x := (1 : Int64)) (k := 1) (by decide))).1; have b1b := ((jv_c (x := (1 : Int64)) (k := 1) (by decide))).2; have b2a := ((jv_c (x := (30 : Int64)) (k := 30) (by decide))).1; have b2b := ((jv_c (x := (30 : Int64)) (k := 30) (by decide))).2; exact ⟨by omega, by omega⟩
      have hx3_18p : iv x3 1 30 := by have := t10; have b0a := (hv10_18p).1; have b0b := (hv10_18p).2; have b1a := (hx3).1; have b1b := (hx3).2; exact ⟨by omega, by omega⟩
      refine lv_aload_n hx hb dX10_sight_24 rfl (lv_at hl 0 rfl) ?_
      refine ti_getr hx hb hts inlX10 hown hK hT ha0 rfl rfl rfl 1 (by decide) (hts _ kw_130) (fun _ h9 => h9) rfl dX10_sight_25 (fun v25 hv25 hm25 => ?_)
      refine lv_bipush (v := 96) hx hb dX10_sight_28 (by decide) ?_
      refine lv_bipush (v := 8) hx hb dX10_sight_30 (by decide) ?_
      refine lv_iload_n hx hb dX10_sight_32 rfl (lv_at hl 1 rfl) ?_
      refine lv_imul hx hb dX10_sight_33 ?_
      refine lv_topi (fun v33 e33 => ?_)
      have hv33 : iv v33 0 56 := by rw [e33]; exact iv_mul (iv_c (x := (8 : Int32)) (k := 8) (by decide)) hx1_6p (by decide)
      have kl8 : (8 : Int32).toInt = 8 := by decide
      have s33 : v33.toInt = (8 : Int32).toInt * x1.toInt := by rw [e33]; exact iv_mulE (iv_c (x := (8 : Int32)) (k := 8) (by decide)) hx1_6p (by decide)
      have s33 : v33.toInt = 8 * x1.toInt := by rw [s33]; simp only [show (8 : Int32).toInt = 8 from by decide]; try omega
      refine lv_iadd hx hb dX10_sight_34 ?_
      refine lv_topi (fun v34 e34 => ?_)
      have hv34 : iv v34 96 152 := by rw [e34]; exact iv_w (iv_add (iv_c (x := (96 : Int32)) (k := 96) (by decide)) hv33 (by decide)) (by decide)
      have s34 : v34.toInt = (96 : Int32).toInt + v33.toInt := by rw [e34]; exact iv_addE (iv_c (x := (96 : Int32)) (k := 96) (by decide)) hv33 (by decide)
      have kl96 : (96 : Int32).toInt = 96 := by decide
      refine lv_iload_n hx hb dX10_sight_35 rfl (lv_at hl 2 rfl) ?_
      refine lv_iadd hx hb dX10_sight_36 ?_
      refine lv_topi (fun v36 e36 => ?_)
      have hv36 : iv v36 96 159 := by rw [e36]; exact iv_w (iv_add hv34 hx2_6p (by decide)) (by decide)
      have s36 : v36.toInt = v34.toInt + x2.toInt := by rw [e36]; exact iv_addE hv34 hx2_6p (by decide)
      refine ti_iald (lo := 1) (hi := 30) hx hb (aT0 hK) hT hv25 rfl hv36 (by decide) (rng_ld 96 159 (by decide +kernel)) dX10_sight_37 (fun v37 hv37 hm37 => ?_)
      refine lv_istore (lv' := [(4, .int v37), (0, .ref a0), (1, .int x1), (2, .int x2), (3, .int x3)]) hx hb dX10_sight_38 hl (by decide) rfl (fun ls hl => ?_)
      refine lv_aload_n hx hb dX10_sight_40 rfl (lv_at hl 1 rfl) ?_
      refine ti_getE (ci := 10) (v := .ref v25) hx hb hts inlX10 hown hK hm25 rfl (by decide) (hts _ kw_130) (fun _ h9 => h9) dX10_sight_41 ?_
      refine lv_bipush (v := 96) hx hb dX10_sight_44 (by decide) ?_
      refine lv_bipush (v := 8) hx hb dX10_sight_46 (by decide) ?_
      refine lv_iload_n hx hb dX10_sight_48 rfl (lv_at hl 2 rfl) ?_
      refine lv_imul hx hb dX10_sight_49 ?_
      refine lv_topi (fun v49 e49 => ?_)
      have hv49 : iv v49 0 56 := by rw [e49]; exact iv_mul (iv_c (x := (8 : Int32)) (k := 8) (by decide)) hx1_6p (by decide)
      have s49 : v49.toInt = (8 : Int32).toInt * x1.toInt := by rw [e49]; exact iv_mulE (iv_c (x := (8 : Int32)) (k := 8) (by decide)) hx1_6p (by decide)
      have s49 : v49.toInt = 8 * x1.toInt := by rw [s49]; simp only [show (8 : Int32).toInt = 8 from by decide]; try omega
      refine lv_iadd hx hb dX10_sight_50 ?_
      refine lv_topi (fun v50 e50 => ?_)
      have hv50 : iv v50 96 152 := by rw [e50]; exact iv_w (iv_add (iv_c (x := (96 : Int32)) (k := 96) (by decide)) hv49 (by decide)) (by decide)
      have s50 : v50.toInt = (96 : Int32).toInt + v49.toInt := by rw [e50]; exact iv_addE (iv_c (x := (96 : Int32)) (k := 96) (by decide)) hv49 (by decide)
      refine lv_iload_n hx hb dX10_sight_51 rfl (lv_at hl 3 rfl) ?_
      refine lv_iadd hx hb dX10_sight_52 ?_
      refine lv_topi (fun v52 e52 => ?_)
      have hv52 : iv v52 96 159 := by rw [e52]; exact iv_w (iv_add hv50 hx2_6p (by decide)) (by decide)
      have s52 : v52.toInt = v50.toInt + x2.toInt := by rw [e52]; exact iv_addE hv50 hx2_6p (by decide)
      refine lv_iload_n hx hb dX10_sight_53 rfl (lv_at hl 4 rfl) ?_
      refine ti_iast hx hb (aT0 hK) hT hS hv25 rfl rfl hv52 (by decide) (rng_st 96 159 (by decide +kernel)) hx3_18p (fun _ _ => trivial) dX10_sight_54 (fun H locs hT hS oq54 he54 hk54 => ?_)
      refine lv_iload hx hb dX10_sight_55 (lv_at hl 0 rfl) ?_
      exact ret _ _ _ _ _ dX10_sight_57 (⟨hT, iv_w hv37 (by decide)⟩) hS
    · skip
      have f18 := i_eq c18
      have hv15_18l : iv v15 0 0 := iv_eql hv15 (iv_c (x := (0 : Int32)) (k := 0) (by decide)) c18 (by decide)
      refine lv_bipush (v := (-2)) hx hb dX10_sight_21 (by decide) ?_
      exact ret _ _ _ _ _ dX10_sight_23 (⟨hT, iv_w (iv_c (x := (-2 : Int32)) (k := (-2)) (by decide)) (by decide)⟩) hS
set_option maxHeartbeats 4000000 in
set_option maxRecDepth 100000 in
theorem t_X10_most (l : Launch) {D : va_G} {c0 : Nat → ClassId} {Y : Nat → Option Nat} {ν : Nat → Nat} {H : Heap} (hT : TI D vwCl (tysOf c0) (RTg ν) Y H) {a0 : Nat} (ha0 : Y a0 = some 10) (hU : uq Y) : Met l yX10_most (wz yX10_most cX10_most 3 (some .int)) { frames := 2, cells := 0, slots := 0, locals := 60 } (TP D vwCl (tysOf c0) H [.ref a0]) (TQi (fun x H' => H' = H ∧ iv x 0 2147483647) Y []) 0 0 (pW Y []) := by
  refine Met.ofW (cc := cX10_most) (maxL := 3) (ret := (some .int)) (by decide) rfl ?_
  intro p e s m args below meth c s₁ B hml hv
  obtain ⟨rfl, rfl, hK⟩ := hv
  have hx := B.exec
  have hb := B.bytes
  have hr := B.returns
  have hts : ∀ w ∈ wq, w.before _ s = true := fun w h => atoms_spec (ws := wz yX10_most cX10_most 3 (some .int)) B.pre w (List.mem_cons_of_mem _ h)
  have hown : s.vm.findClass RX10 = some m.cls := findClass_of_methodNamed B.named
  have hlocks := B.notSynchronized
  obtain ⟨R, hR⟩ : ∃ R : Room, R = ({ frames := 2, cells := 0, slots := 0, locals := 60 } : Room) := ⟨_, rfl⟩
  rw [show (headSpec (wz yX10_most cX10_most 3 (some .int)) { frames := 2, cells := 0, slots := 0, locals := 60 }).room = R from hR.symm]
  refine ti_mi hx hb hr hlocks (fun Q ret => ?_)
  have hl := lv_entry [.ref a0] (n := 3) (Nat.le_of_ble_eq_true rfl)
  rw [lg_entry_eq]
  generalize (lg_sl [.ref a0] ++ List.replicate (3 - (lg_sl [.ref a0]).length) Slot.unset).toArray = ls at hl ⊢
  have hl : lv_has ls 3 [(0, .ref a0)] := hl
  have hS : va_S (pW Y []) s.heap s.heap [] := va_S.rf
  refine lv_iconst (v := 0) hx hb dX10_most_0 (by decide) ?_
  refine lv_istore_n (lv' := [(1, .int (0 : Int32)), (0, .ref a0)]) hx hb dX10_most_1 rfl hl (by decide) rfl (fun ls hl => ?_)
  refine lv_iconst (v := 0) hx hb dX10_most_2 (by decide) ?_
  have J4 : ∀ (n : Nat) (j4_L1 : Int32) (j4_L2 : Int32) (locs : List Loc) (ls : Array Slot), (8 - j4_L2.toInt).toNat < n → iv j4_L1 0 2147483647 → iv j4_L2 0 8 → va_S (pW Y []) s.heap s.heap locs → lv_has ls 3 [(0, .ref a0), (1, .int j4_L1), (2, .int j4_L2)] → W p l e R s m ([.ref a0] : List Value).toArray below meth c s.heap locs 0 0 Q (F0 m 4 ls []) := by
    intro n
    induction n with
    | zero => intro j4_L1 j4_L2 locs ls hms; exact absurd hms (Nat.not_lt_zero _)
    | succ n ih4 =>
      intro j4_L1 j4_L2 locs ls hms4 hj4_L1 hj4_L2 hS hl
      refine lv_iload_n hx hb dX10_most_4 rfl (lv_at hl 2 rfl) ?_
      refine lv_aload_n hx hb dX10_most_5 rfl (lv_at hl 0 rfl) ?_
      refine ti_calli (va_runV (As := []) (rest := [.int j4_L2]) ⟨hx, hb, hml, hown, hts⟩ (t_X10_people l hT ha0 hU) (cwV 0 hts (good_V kw_605 kw_606 kw_607 kw_5 kw_608) rfl rfl rfl (by decide +kernel) ⟨by rw [hR]; decide, by rw [hR]; decide⟩) (ti_preV hK hT ha0 rfl rfl) rfl rfl hl.1 rfl (lv_room (Nat.le_of_ble_eq_true rfl)) dX10_most_6 ⟨Nat.zero_le _, Nat.zero_le _⟩) hS (pW_sub rfl) (fun v6 H1 locs hB hS _ hk6 => ?_)
      obtain ⟨hH, hv6, hp6⟩ := hB
      rw [hH] at hS ⊢
      refine lv_icmp_ge (tgt := 28) hx hb dX10_most_9 (by decide) (fun c9 => ?_) (fun c9 => ?_)
      · skip
        have f9 := i_le c9
        refine lv_iload_n hx hb dX10_most_28 rfl (lv_at hl 1 rfl) ?_
        exact ret _ _ _ _ _ dX10_most_29 (⟨rfl, iv_w hj4_L1 (by decide)⟩) hS
      · skip
        have f9 := i_nle c9
        have hj4_L2_9l : iv j4_L2 0 7 := iv_ltl hj4_L2 hv6 (Int32.not_le.mp c9) (by decide)
        have hv6_9r : iv v6 1 8 := iv_ltr hj4_L2_9l hv6 (Int32.not_le.mp c9) (by decide)
        refine lv_iload_n hx hb dX10_most_12 rfl (lv_at hl 1 rfl) ?_
        refine lv_aload_n hx hb dX10_most_13 rfl (lv_at hl 0 rfl) ?_
        refine lv_iload_n hx hb dX10_most_14 rfl (lv_at hl 2 rfl) ?_
        refine ti_calli (va_runV (As := [.int j4_L2]) (rest := [.int j4_L1]) ⟨hx, hb, hml, hown, hts⟩ (t_X10_shown l hT ha0 (iv_w hj4_L2_9l (by decide)) hU) (cwV 1 hts (good_V kw_553 kw_554 kw_555 kw_5 kw_556) rfl rfl rfl (by decide +kernel) ⟨by rw [hR]; decide, by rw [hR]; decide⟩) (ti_preV hK hT ha0 rfl rfl) rfl rfl hl.1 rfl (lv_room (Nat.le_of_ble_eq_true rfl)) dX10_most_15 ⟨Nat.zero_le _, Nat.zero_le _⟩) hS (pW_sub rfl) (fun v15 H1 locs hB hS _ hk15 => ?_)
        have hH := hB
        rw [hH] at hS ⊢
        refine va_mmax hx hb (by rw [hml]; exact hl.1.symm) hown (hts _ kw_617) (hts _ kw_618) (hts _ kw_212) (hts _ kw_619) (by rw [hR]; decide) (by rw [hR]; exact Nat.le_of_ble_eq_true rfl) (Nat.zero_le _) (Nat.zero_le _) dX10_most_18 ?_
        refine lv_topi (fun v18 e18 => ?_)
        have hv18 : iv v18 0 2147483647 := by rw [e18]; exact iv_max hj4_L1 (iv_top v15) (by decide)
        refine lv_istore_n (lv' := [(1, .int v18), (0, .ref a0), (2, .int j4_L2)]) hx hb dX10_most_21 rfl hl (by decide) rfl (fun ls hl => ?_)
        obtain ⟨v22, e22⟩ : ∃ y : Int32, y = j4_L2 + 1 := ⟨_, rfl⟩
        have hv22 : iv v22 1 8 := by rw [e22]; exact iv_w (iv_add hj4_L2_9l (iv_c (x := (1 : Int32)) (k := 1) (by decide)) (by decide)) (by decide)
        have s22 : v22.toInt = j4_L2.toInt + 1 := by rw [e22, iv_addE hj4_L2_9l (iv_c (x := (1 : Int32)) (k := 1) (by decide)) (by decide)]; rfl
        refine lv_iinc (v := v22) (lv' := [(2, .int v22), (1, .int v18), (0, .ref a0)]) hx hb dX10_most_22 hl (k := 2) rfl (by rw [e22]; rfl) (by decide) rfl (fun ls hl => ?_)
        refine lv_goto (tgt := 4) hx hb dX10_most_25 (by decide) ?_
        exact ih4 v18 v22 _ _ (ms_up hms4 (by have := s22; omega) (iv_w (c := 1) (d := 8) hv22 (by decide)).2) (iv_w hv18 (by decide)) (iv_w hv22 (by decide))  hS (lv_sub hl [2, 1, 0] rfl)
  refine lv_istore_n (lv' := [(2, .int (0 : Int32)), (1, .int (0 : Int32)), (0, .ref a0)]) hx hb dX10_most_3 rfl hl (by decide) rfl (fun ls hl => ?_)
  exact J4 _ (0 : Int32) (0 : Int32) _ _ (Nat.lt_succ_self _) (iv_w (iv_c (x := (0 : Int32)) (k := 0) (by decide)) (by decide)) (iv_w (iv_c (x := (0 : Int32)) (k := 0) (by decide)) (by decide))  hS (lv_sub hl [2, 1, 0] rfl)
set_option maxHeartbeats 4000000 in
set_option maxRecDepth 100000 in
theorem t_X10_nextMost (l : Launch) {D : va_G} {c0 : Nat → ClassId} {Y : Nat → Option Nat} {ν : Nat → Nat} {H : Heap} (hT : TI D vwCl (tysOf c0) (RTg ν) Y H) {a0 : Nat} (ha0 : Y a0 = some 10) (hU : uq Y) : Met l yX10_nextMost (wz yX10_nextMost cX10_nextMost 4 (some .int)) { frames := 3, cells := 0, slots := 0, locals := 82 } (TP D vwCl (tysOf c0) H [.ref a0]) (TQi (fun x H' => H' = H ∧ iv x 0 2147483647) Y []) 0 0 (pW Y []) := by
  refine Met.ofW (cc := cX10_nextMost) (maxL := 4) (ret := (some .int)) (by decide) rfl ?_
  intro p e s m args below meth c s₁ B hml hv
  obtain ⟨rfl, rfl, hK⟩ := hv
  have hx := B.exec
  have hb := B.bytes
  have hr := B.returns
  have hts : ∀ w ∈ wq, w.before _ s = true := fun w h => atoms_spec (ws := wz yX10_nextMost cX10_nextMost 4 (some .int)) B.pre w (List.mem_cons_of_mem _ h)
  have hown : s.vm.findClass RX10 = some m.cls := findClass_of_methodNamed B.named
  have hlocks := B.notSynchronized
  obtain ⟨R, hR⟩ : ∃ R : Room, R = ({ frames := 3, cells := 0, slots := 0, locals := 82 } : Room) := ⟨_, rfl⟩
  rw [show (headSpec (wz yX10_nextMost cX10_nextMost 4 (some .int)) { frames := 3, cells := 0, slots := 0, locals := 82 }).room = R from hR.symm]
  refine ti_mi hx hb hr hlocks (fun Q ret => ?_)
  have hl := lv_entry [.ref a0] (n := 4) (Nat.le_of_ble_eq_true rfl)
  rw [lg_entry_eq]
  generalize (lg_sl [.ref a0] ++ List.replicate (4 - (lg_sl [.ref a0]).length) Slot.unset).toArray = ls at hl ⊢
  have hl : lv_has ls 4 [(0, .ref a0)] := hl
  have hS : va_S (pW Y []) s.heap s.heap [] := va_S.rf
  refine lv_aload_n hx hb dX10_nextMost_0 rfl (lv_at hl 0 rfl) ?_
  refine ti_calli (va_runV (As := []) (rest := []) ⟨hx, hb, hml, hown, hts⟩ (t_X10_most l hT ha0 hU) (cwV 0 hts (good_V kw_613 kw_614 kw_615 kw_5 kw_616) rfl rfl rfl (by decide +kernel) ⟨by rw [hR]; decide, by rw [hR]; decide⟩) (ti_preV hK hT ha0 rfl rfl) rfl rfl hl.1 rfl (lv_room (Nat.le_of_ble_eq_true rfl)) dX10_nextMost_1 ⟨Nat.zero_le _, Nat.zero_le _⟩) hS (pW_sub rfl) (fun v1 H1 locs hB hS _ hk1 => ?_)
  obtain ⟨hH, hv1⟩ := hB
  rw [hH] at hS ⊢
  refine lv_istore_n (lv' := [(1, .int v1), (0, .ref a0)]) hx hb dX10_nextMost_4 rfl hl (by decide) rfl (fun ls hl => ?_)
  refine lv_iconst (v := 0) hx hb dX10_nextMost_5 (by decide) ?_
  refine lv_istore_n (lv' := [(2, .int (0 : Int32)), (1, .int v1), (0, .ref a0)]) hx hb dX10_nextMost_6 rfl hl (by decide) rfl (fun ls hl => ?_)
  refine lv_iconst (v := 0) hx hb dX10_nextMost_7 (by decide) ?_
  have J9 : ∀ (n : Nat) (j9_L2 : Int32) (j9_L3 : Int32) (locs : List Loc) (ls : Array Slot), (8 - j9_L3.toInt).toNat < n → iv j9_L2 0 2147483647 → iv j9_L3 0 8 → va_S (pW Y []) s.heap s.heap locs → lv_has ls 4 [(0, .ref a0), (1, .int v1), (2, .int j9_L2), (3, .int j9_L3)] → W p l e R s m ([.ref a0] : List Value).toArray below meth c s.heap locs 0 0 Q (F0 m 9 ls []) := by
    intro n
    induction n with
    | zero => intro j9_L2 j9_L3 locs ls hms; exact absurd hms (Nat.not_lt_zero _)
    | succ n ih9 =>
      intro j9_L2 j9_L3 locs ls hms9 hj9_L2 hj9_L3 hS hl
      refine lv_iload_n hx hb dX10_nextMost_9 rfl (lv_at hl 3 rfl) ?_
      refine lv_aload_n hx hb dX10_nextMost_10 rfl (lv_at hl 0 rfl) ?_
      refine ti_calli (va_runV (As := []) (rest := [.int j9_L3]) ⟨hx, hb, hml, hown, hts⟩ (t_X10_people l hT ha0 hU) (cwV 0 hts (good_V kw_605 kw_606 kw_607 kw_5 kw_608) rfl rfl rfl (by decide +kernel) ⟨by rw [hR]; decide, by rw [hR]; decide⟩) (ti_preV hK hT ha0 rfl rfl) rfl rfl hl.1 rfl (lv_room (Nat.le_of_ble_eq_true rfl)) dX10_nextMost_11 ⟨Nat.zero_le _, Nat.zero_le _⟩) hS (pW_sub rfl) (fun v11 H1 locs hB hS _ hk11 => ?_)
      obtain ⟨hH, hv11, hp11⟩ := hB
      rw [hH] at hS ⊢
      refine lv_icmp_ge (tgt := 46) hx hb dX10_nextMost_14 (by decide) (fun c14 => ?_) (fun c14 => ?_)
      · skip
        have f14 := i_le c14
        refine lv_iload_n hx hb dX10_nextMost_46 rfl (lv_at hl 2 rfl) ?_
        exact ret _ _ _ _ _ dX10_nextMost_47 (⟨rfl, iv_w hj9_L2 (by decide)⟩) hS
      · skip
        have f14 := i_nle c14
        have hj9_L3_14l : iv j9_L3 0 7 := iv_ltl hj9_L3 hv11 (Int32.not_le.mp c14) (by decide)
        have hv11_14r : iv v11 1 8 := iv_ltr hj9_L3_14l hv11 (Int32.not_le.mp c14) (by decide)
        refine lv_aload_n hx hb dX10_nextMost_17 rfl (lv_at hl 0 rfl) ?_
        refine lv_iload_n hx hb dX10_nextMost_18 rfl (lv_at hl 3 rfl) ?_
        refine ti_calli (va_runV (As := [.int j9_L3]) (rest := []) ⟨hx, hb, hml, hown, hts⟩ (t_X10_shown l hT ha0 (iv_w hj9_L3_14l (by decide)) hU) (cwV 1 hts (good_V kw_553 kw_554 kw_555 kw_5 kw_556) rfl rfl rfl (by decide +kernel) ⟨by rw [hR]; decide, by rw [hR]; decide⟩) (ti_preV hK hT ha0 rfl rfl) rfl rfl hl.1 rfl (lv_room (Nat.le_of_ble_eq_true rfl)) dX10_nextMost_19 ⟨Nat.zero_le _, Nat.zero_le _⟩) hS (pW_sub rfl) (fun v19 H1 locs hB hS _ hk19 => ?_)
        have hH := hB
        rw [hH] at hS ⊢
        refine lv_iload_n hx hb dX10_nextMost_22 rfl (lv_at hl 1 rfl) ?_
        have J39 : ∀ (j39_S0 : Int32) (locs : List Loc) (ls : Array Slot), iv j39_S0 0 2147483647 → va_S (pW Y []) s.heap s.heap locs → lv_has ls 4 [(0, .ref a0), (1, .int v1), (2, .int j9_L2), (3, .int j9_L3)] → W p l e R s m ([.ref a0] : List Value).toArray below meth c s.heap locs 0 0 Q (F0 m 39 ls [.int j39_S0]) := by
          intro j39_S0 locs ls hj39_S0 hS hl
          refine lv_istore_n (lv' := [(2, .int j39_S0), (0, .ref a0), (1, .int v1), (3, .int j9_L3)]) hx hb dX10_nextMost_39 rfl hl (by decide) rfl (fun ls hl => ?_)
          obtain ⟨v40, e40⟩ : ∃ y : Int32, y = j9_L3 + 1 := ⟨_, rfl⟩
          have hv40 : iv v40 1 8 := by rw [e40]; exact iv_w (iv_add hj9_L3_14l (iv_c (x := (1 : Int32)) (k := 1) (by decide)) (by decide)) (by decide)
          have s40 : v40.toInt = j9_L3.toInt + 1 := by rw [e40, iv_addE hj9_L3_14l (iv_c (x := (1 : Int32)) (k := 1) (by decide)) (by decide)]; rfl
          refine lv_iinc (v := v40) (lv' := [(3, .int v40), (2, .int j39_S0), (0, .ref a0), (1, .int v1)]) hx hb dX10_nextMost_40 hl (k := 3) rfl (by rw [e40]; rfl) (by decide) rfl (fun ls hl => ?_)
          refine lv_goto (tgt := 9) hx hb dX10_nextMost_43 (by decide) ?_
          exact ih9 j39_S0 v40 _ _ (ms_up hms9 (by have := s40; omega) (iv_w (c := 1) (d := 8) hv40 (by decide)).2) (iv_w hj39_S0 (by decide)) (iv_w hv40 (by decide))  hS (lv_sub hl [2, 3, 1, 0] rfl)
        refine lv_icmp_ge (tgt := 38) hx hb dX10_nextMost_23 (by decide) (fun c23 => ?_) (fun c23 => ?_)
        · skip
          have f23 := i_le c23
          have hv19_23r : iv v19 0 2147483647 := iv_ler hv1 (iv_top v19) c23 (by decide)
          refine lv_iload_n hx hb dX10_nextMost_38 rfl (lv_at hl 2 rfl) ?_
          exact J39 j9_L2 _ _  (iv_w hj9_L2 (by decide))  hS (lv_sub hl [0, 1, 2, 3] rfl)
        · skip
          have f23 := i_nle c23
          have hv19_23l : iv v19 (-2147483648) 2147483646 := iv_ltl (iv_top v19) hv1 (Int32.not_le.mp c23) (by decide)
          refine lv_iload_n hx hb dX10_nextMost_26 rfl (lv_at hl 2 rfl) ?_
          refine lv_aload_n hx hb dX10_nextMost_27 rfl (lv_at hl 0 rfl) ?_
          refine lv_iload_n hx hb dX10_nextMost_28 rfl (lv_at hl 3 rfl) ?_
          refine ti_calli (va_runV (As := [.int j9_L3]) (rest := [.int j9_L2]) ⟨hx, hb, hml, hown, hts⟩ (t_X10_shown l hT ha0 (iv_w hj9_L3_14l (by decide)) hU) (cwV 1 hts (good_V kw_553 kw_554 kw_555 kw_5 kw_556) rfl rfl rfl (by decide +kernel) ⟨by rw [hR]; decide, by rw [hR]; decide⟩) (ti_preV hK hT ha0 rfl rfl) rfl rfl hl.1 rfl (lv_room (Nat.le_of_ble_eq_true rfl)) dX10_nextMost_29 ⟨Nat.zero_le _, Nat.zero_le _⟩) hS (pW_sub rfl) (fun v29 H1 locs hB hS _ hk29 => ?_)
          have hH := hB
          rw [hH] at hS ⊢
          refine va_mmax hx hb (by rw [hml]; exact hl.1.symm) hown (hts _ kw_617) (hts _ kw_618) (hts _ kw_212) (hts _ kw_619) (by rw [hR]; decide) (by rw [hR]; exact Nat.le_of_ble_eq_true rfl) (Nat.zero_le _) (Nat.zero_le _) dX10_nextMost_32 ?_
          refine lv_topi (fun v32 e32 => ?_)
          have hv32 : iv v32 0 2147483647 := by rw [e32]; exact iv_max hj9_L2 (iv_top v29) (by decide)
          refine lv_goto (tgt := 39) hx hb dX10_nextMost_35 (by decide) ?_
          exact J39 v32 _ _  (iv_w hv32 (by decide))  hS (lv_sub hl [0, 1, 2, 3] rfl)
  refine lv_istore_n (lv' := [(3, .int (0 : Int32)), (2, .int (0 : Int32)), (1, .int v1), (0, .ref a0)]) hx hb dX10_nextMost_8 rfl hl (by decide) rfl (fun ls hl => ?_)
  exact J9 _ (0 : Int32) (0 : Int32) _ _ (Nat.lt_succ_self _) (iv_w (iv_c (x := (0 : Int32)) (k := 0) (by decide)) (by decide)) (iv_w (iv_c (x := (0 : Int32)) (k := 0) (by decide)) (by decide))  hS (lv_sub hl [3, 2, 1, 0] rfl)
set_option maxHeartbeats 4000000 in
set_option maxRecDepth 100000 in
theorem t_X10_topSet (l : Launch) {D : va_G} {c0 : Nat → ClassId} {Y : Nat → Option Nat} {ν : Nat → Nat} {H : Heap} (hT : TI D vwCl (tysOf c0) (RTg ν) Y H) {a0 : Nat} (ha0 : Y a0 = some 10) (hU : uq Y) : Met l yX10_topSet (wz yX10_topSet cX10_topSet 4 (some .int)) { frames := 3, cells := 0, slots := 0, locals := 82 } (TP D vwCl (tysOf c0) H [.ref a0]) (TQi (fun x H' => H' = H) Y []) 0 0 (pW Y []) := by
  refine Met.ofW (cc := cX10_topSet) (maxL := 4) (ret := (some .int)) (by decide) rfl ?_
  intro p e s m args below meth c s₁ B hml hv
  obtain ⟨rfl, rfl, hK⟩ := hv
  have hx := B.exec
  have hb := B.bytes
  have hr := B.returns
  have hts : ∀ w ∈ wq, w.before _ s = true := fun w h => atoms_spec (ws := wz yX10_topSet cX10_topSet 4 (some .int)) B.pre w (List.mem_cons_of_mem _ h)
  have hown : s.vm.findClass RX10 = some m.cls := findClass_of_methodNamed B.named
  have hlocks := B.notSynchronized
  obtain ⟨R, hR⟩ : ∃ R : Room, R = ({ frames := 3, cells := 0, slots := 0, locals := 82 } : Room) := ⟨_, rfl⟩
  rw [show (headSpec (wz yX10_topSet cX10_topSet 4 (some .int)) { frames := 3, cells := 0, slots := 0, locals := 82 }).room = R from hR.symm]
  refine ti_mi hx hb hr hlocks (fun Q ret => ?_)
  have hl := lv_entry [.ref a0] (n := 4) (Nat.le_of_ble_eq_true rfl)
  rw [lg_entry_eq]
  generalize (lg_sl [.ref a0] ++ List.replicate (4 - (lg_sl [.ref a0]).length) Slot.unset).toArray = ls at hl ⊢
  have hl : lv_has ls 4 [(0, .ref a0)] := hl
  have hS : va_S (pW Y []) s.heap s.heap [] := va_S.rf
  refine lv_aload_n hx hb dX10_topSet_0 rfl (lv_at hl 0 rfl) ?_
  refine ti_calli (va_runV (As := []) (rest := []) ⟨hx, hb, hml, hown, hts⟩ (t_X10_most l hT ha0 hU) (cwV 0 hts (good_V kw_613 kw_614 kw_615 kw_5 kw_616) rfl rfl rfl (by decide +kernel) ⟨by rw [hR]; decide, by rw [hR]; decide⟩) (ti_preV hK hT ha0 rfl rfl) rfl rfl hl.1 rfl (lv_room (Nat.le_of_ble_eq_true rfl)) dX10_topSet_1 ⟨Nat.zero_le _, Nat.zero_le _⟩) hS (pW_sub rfl) (fun v1 H1 locs hB hS _ hk1 => ?_)
  obtain ⟨hH, hv1⟩ := hB
  rw [hH] at hS ⊢
  refine lv_istore_n (lv' := [(1, .int v1), (0, .ref a0)]) hx hb dX10_topSet_4 rfl hl (by decide) rfl (fun ls hl => ?_)
  refine lv_iconst (v := 0) hx hb dX10_topSet_5 (by decide) ?_
  refine lv_istore_n (lv' := [(2, .int (0 : Int32)), (1, .int v1), (0, .ref a0)]) hx hb dX10_topSet_6 rfl hl (by decide) rfl (fun ls hl => ?_)
  refine lv_iconst (v := 0) hx hb dX10_topSet_7 (by decide) ?_
  have J9 : ∀ (n : Nat) (j9_L2 : Int32) (j9_L3 : Int32) (locs : List Loc) (ls : Array Slot), (8 - j9_L3.toInt).toNat < n → iv j9_L2 (-2147483648) 2147483647 → iv j9_L3 0 8 → va_S (pW Y []) s.heap s.heap locs → lv_has ls 4 [(0, .ref a0), (1, .int v1), (2, .int j9_L2), (3, .int j9_L3)] → W p l e R s m ([.ref a0] : List Value).toArray below meth c s.heap locs 0 0 Q (F0 m 9 ls []) := by
    intro n
    induction n with
    | zero => intro j9_L2 j9_L3 locs ls hms; exact absurd hms (Nat.not_lt_zero _)
    | succ n ih9 =>
      intro j9_L2 j9_L3 locs ls hms9 hj9_L2 hj9_L3 hS hl
      refine lv_iload_n hx hb dX10_topSet_9 rfl (lv_at hl 3 rfl) ?_
      refine lv_aload_n hx hb dX10_topSet_10 rfl (lv_at hl 0 rfl) ?_
      refine ti_calli (va_runV (As := []) (rest := [.int j9_L3]) ⟨hx, hb, hml, hown, hts⟩ (t_X10_people l hT ha0 hU) (cwV 0 hts (good_V kw_605 kw_606 kw_607 kw_5 kw_608) rfl rfl rfl (by decide +kernel) ⟨by rw [hR]; decide, by rw [hR]; decide⟩) (ti_preV hK hT ha0 rfl rfl) rfl rfl hl.1 rfl (lv_room (Nat.le_of_ble_eq_true rfl)) dX10_topSet_11 ⟨Nat.zero_le _, Nat.zero_le _⟩) hS (pW_sub rfl) (fun v11 H1 locs hB hS _ hk11 => ?_)
      obtain ⟨hH, hv11, hp11⟩ := hB
      rw [hH] at hS ⊢
      refine lv_icmp_ge (tgt := 42) hx hb dX10_topSet_14 (by decide) (fun c14 => ?_) (fun c14 => ?_)
      · skip
        have f14 := i_le c14
        refine lv_iload_n hx hb dX10_topSet_42 rfl (lv_at hl 2 rfl) ?_
        exact ret _ _ _ _ _ dX10_topSet_43 (rfl) hS
      · skip
        have f14 := i_nle c14
        have hj9_L3_14l : iv j9_L3 0 7 := iv_ltl hj9_L3 hv11 (Int32.not_le.mp c14) (by decide)
        have hv11_14r : iv v11 1 8 := iv_ltr hj9_L3_14l hv11 (Int32.not_le.mp c14) (by decide)
        refine lv_iload_n hx hb dX10_topSet_17 rfl (lv_at hl 2 rfl) ?_
        refine lv_aload_n hx hb dX10_topSet_18 rfl (lv_at hl 0 rfl) ?_
        refine lv_iload_n hx hb dX10_topSet_19 rfl (lv_at hl 3 rfl) ?_
        refine ti_calli (va_runV (As := [.int j9_L3]) (rest := [.int j9_L2]) ⟨hx, hb, hml, hown, hts⟩ (t_X10_shown l hT ha0 (iv_w hj9_L3_14l (by decide)) hU) (cwV 1 hts (good_V kw_553 kw_554 kw_555 kw_5 kw_556) rfl rfl rfl (by decide +kernel) ⟨by rw [hR]; decide, by rw [hR]; decide⟩) (ti_preV hK hT ha0 rfl rfl) rfl rfl hl.1 rfl (lv_room (Nat.le_of_ble_eq_true rfl)) dX10_topSet_20 ⟨Nat.zero_le _, Nat.zero_le _⟩) hS (pW_sub rfl) (fun v20 H1 locs hB hS _ hk20 => ?_)
        have hH := hB
        rw [hH] at hS ⊢
        refine lv_iload_n hx hb dX10_topSet_23 rfl (lv_at hl 1 rfl) ?_
        have J34 : ∀ (j34_S1 : Int32) (locs : List Loc) (ls : Array Slot), iv j34_S1 (-2147483648) 2147483647 → va_S (pW Y []) s.heap s.heap locs → lv_has ls 4 [(0, .ref a0), (1, .int v1), (2, .int j9_L2), (3, .int j9_L3)] → W p l e R s m ([.ref a0] : List Value).toArray below meth c s.heap locs 0 0 Q (F0 m 34 ls [.int j34_S1, .int j9_L2]) := by
          intro j34_S1 locs ls hj34_S1 hS hl
          refine lv_ior hx hb dX10_topSet_34 ?_
          refine lv_topi (fun v34 e34 => ?_)
          have hv34 : iv v34 (-2147483648) 2147483647 := iv_top _
          refine lv_istore_n (lv' := [(2, .int v34), (0, .ref a0), (1, .int v1), (3, .int j9_L3)]) hx hb dX10_topSet_35 rfl hl (by decide) rfl (fun ls hl => ?_)
          obtain ⟨v36, e36⟩ : ∃ y : Int32, y = j9_L3 + 1 := ⟨_, rfl⟩
          have hv36 : iv v36 1 8 := by rw [e36]; exact iv_w (iv_add hj9_L3_14l (iv_c (x := (1 : Int32)) (k := 1) (by decide)) (by decide)) (by decide)
          have s36 : v36.toInt = j9_L3.toInt + 1 := by rw [e36, iv_addE hj9_L3_14l (iv_c (x := (1 : Int32)) (k := 1) (by decide)) (by decide)]; rfl
          refine lv_iinc (v := v36) (lv' := [(3, .int v36), (2, .int v34), (0, .ref a0), (1, .int v1)]) hx hb dX10_topSet_36 hl (k := 3) rfl (by rw [e36]; rfl) (by decide) rfl (fun ls hl => ?_)
          refine lv_goto (tgt := 9) hx hb dX10_topSet_39 (by decide) ?_
          exact ih9 v34 v36 _ _ (ms_up hms9 (by have := s36; omega) (iv_w (c := 1) (d := 8) hv36 (by decide)).2) (iv_w hv34 (by decide)) (iv_w hv36 (by decide))  hS (lv_sub hl [2, 3, 1, 0] rfl)
        refine lv_icmp_ne (tgt := 33) hx hb dX10_topSet_24 (by decide) (fun c24 => ?_) (fun c24 => ?_)
        · skip
          have f24 := i_ne c24
          refine lv_iconst (v := 0) hx hb dX10_topSet_33 (by decide) ?_
          exact J34 (0 : Int32) _ _  (iv_w (iv_c (x := (0 : Int32)) (k := 0) (by decide)) (by decide))  hS (lv_sub hl [0, 1, 2, 3] rfl)
        · skip
          have f24 := i_eq c24
          have hv20_24l : iv v20 0 2147483647 := iv_eql (iv_top v20) hv1 c24 (by decide)
          refine lv_iconst (v := 1) hx hb dX10_topSet_27 (by decide) ?_
          refine lv_iload_n hx hb dX10_topSet_28 rfl (lv_at hl 3 rfl) ?_
          refine lv_ishl hx hb dX10_topSet_29 ?_
          refine lv_topi (fun v29 e29 => ?_)
          have hv29 : iv v29 (-2147483648) 2147483647 := iv_top _
          refine lv_goto (tgt := 34) hx hb dX10_topSet_30 (by decide) ?_
          exact J34 v29 _ _  (iv_w hv29 (by decide))  hS (lv_sub hl [0, 1, 2, 3] rfl)
  refine lv_istore_n (lv' := [(3, .int (0 : Int32)), (2, .int (0 : Int32)), (1, .int v1), (0, .ref a0)]) hx hb dX10_topSet_8 rfl hl (by decide) rfl (fun ls hl => ?_)
  exact J9 _ (0 : Int32) (0 : Int32) _ _ (Nat.lt_succ_self _) (iv_w (iv_c (x := (0 : Int32)) (k := 0) (by decide)) (by decide)) (iv_w (iv_c (x := (0 : Int32)) (k := 0) (by decide)) (by decide))  hS (lv_sub hl [3, 2, 1, 0] rfl)
set_option maxHeartbeats 4000000 in
set_option maxRecDepth 100000 in
theorem t_X10_ones (l : Launch) {D : va_G} {c0 : Nat → ClassId} {Y : Nat → Option Nat} {ν : Nat → Nat} {H : Heap} (hT : TI D vwCl (tysOf c0) (RTg ν) Y H) {x0 : Int32} (hx0 : iv x0 (-2147483648) 2147483647) : Met l yX10_ones (wz yX10_ones cX10_ones 3 (some .int)) { frames := 0, cells := 0, slots := 0, locals := 0 } (TP D vwCl (tysOf c0) H [.int x0]) (TQi (fun x H' => H' = H) Y []) 0 0 (pW Y []) := by
  refine Met.ofW (cc := cX10_ones) (maxL := 3) (ret := (some .int)) (by decide) rfl ?_
  intro p e s m args below meth c s₁ B hml hv
  obtain ⟨rfl, rfl, hK⟩ := hv
  have hx := B.exec
  have hb := B.bytes
  have hr := B.returns
  have hts : ∀ w ∈ wq, w.before _ s = true := fun w h => atoms_spec (ws := wz yX10_ones cX10_ones 3 (some .int)) B.pre w (List.mem_cons_of_mem _ h)
  have hown : s.vm.findClass RX10 = some m.cls := findClass_of_methodNamed B.named
  have hlocks := B.notSynchronized
  obtain ⟨R, hR⟩ : ∃ R : Room, R = ({ frames := 0, cells := 0, slots := 0, locals := 0 } : Room) := ⟨_, rfl⟩
  rw [show (headSpec (wz yX10_ones cX10_ones 3 (some .int)) { frames := 0, cells := 0, slots := 0, locals := 0 }).room = R from hR.symm]
  refine ti_mi hx hb hr hlocks (fun Q ret => ?_)
  have hl := lv_entry [.int x0] (n := 3) (Nat.le_of_ble_eq_true rfl)
  rw [lg_entry_eq]
  generalize (lg_sl [.int x0] ++ List.replicate (3 - (lg_sl [.int x0]).length) Slot.unset).toArray = ls at hl ⊢
  have hl : lv_has ls 3 [(0, .int x0)] := hl
  have hS : va_S (pW Y []) s.heap s.heap [] := va_S.rf
  refine lv_iconst (v := 0) hx hb dX10_ones_0 (by decide) ?_
  refine lv_istore_n (lv' := [(1, .int (0 : Int32)), (0, .int x0)]) hx hb dX10_ones_1 rfl hl (by decide) rfl (fun ls hl => ?_)
  refine lv_iconst (v := 0) hx hb dX10_ones_2 (by decide) ?_
  have J4 : ∀ (n : Nat) (j4_L1 : Int32) (j4_L2 : Int32) (locs : List Loc) (ls : Array Slot), (8 - j4_L2.toInt).toNat < n → iv j4_L1 (-2147483648) 2147483647 → iv j4_L2 0 8 → va_S (pW Y []) s.heap s.heap locs → lv_has ls 3 [(0, .int x0), (1, .int j4_L1), (2, .int j4_L2)] → W p l e R s m ([.int x0] : List Value).toArray below meth c s.heap locs 0 0 Q (F0 m 4 ls []) := by
    intro n
    induction n with
    | zero => intro j4_L1 j4_L2 locs ls hms; exact absurd hms (Nat.not_lt_zero _)
    | succ n ih4 =>
      intro j4_L1 j4_L2 locs ls hms4 hj4_L1 hj4_L2 hS hl
      refine lv_iload_n hx hb dX10_ones_4 rfl (lv_at hl 2 rfl) ?_
      refine lv_bipush (v := 8) hx hb dX10_ones_5 (by decide) ?_
      refine lv_icmp_ge (tgt := 24) hx hb dX10_ones_7 (by decide) (fun c7 => ?_) (fun c7 => ?_)
      · skip
        have kl8 : (8 : Int32).toInt = 8 := by decide
        have f7 := i_le c7
        have hj4_L2_7r : iv j4_L2 8 8 := iv_ler (iv_c (x := (8 : Int32)) (k := 8) (by decide)) hj4_L2 c7 (by decide)
        refine lv_iload_n hx hb dX10_ones_24 rfl (lv_at hl 1 rfl) ?_
        exact ret _ _ _ _ _ dX10_ones_25 (rfl) hS
      · skip
        have kl8 : (8 : Int32).toInt = 8 := by decide
        have f7 := i_nle c7
        have hj4_L2_7l : iv j4_L2 0 7 := iv_ltl hj4_L2 (iv_c (x := (8 : Int32)) (k := 8) (by decide)) (Int32.not_le.mp c7) (by decide)
        refine lv_iload_n hx hb dX10_ones_10 rfl (lv_at hl 1 rfl) ?_
        refine lv_iload_n hx hb dX10_ones_11 rfl (lv_at hl 0 rfl) ?_
        refine lv_iload_n hx hb dX10_ones_12 rfl (lv_at hl 2 rfl) ?_
        refine lv_ishr hx hb dX10_ones_13 ?_
        refine lv_topi (fun v13 e13 => ?_)
        have hv13 : iv v13 (-2147483648) 2147483647 := iv_top _
        refine lv_iconst (v := 1) hx hb dX10_ones_14 (by decide) ?_
        refine lv_iand hx hb dX10_ones_15 ?_
        refine lv_topi (fun v15 e15 => ?_)
        have hv15 : iv v15 0 1 := by rw [e15]; exact iv_and (iv_w (iv_c (x := (1 : Int32)) (k := 1) (by decide)) (by decide))
        refine lv_iadd hx hb dX10_ones_16 ?_
        refine lv_topi (fun v16 e16 => ?_)
        have hv16 : iv v16 (-2147483648) 2147483647 := iv_top _
        refine lv_istore_n (lv' := [(1, .int v16), (0, .int x0), (2, .int j4_L2)]) hx hb dX10_ones_17 rfl hl (by decide) rfl (fun ls hl => ?_)
        obtain ⟨v18, e18⟩ : ∃ y : Int32, y = j4_L2 + 1 := ⟨_, rfl⟩
        have hv18 : iv v18 1 8 := by rw [e18]; exact iv_w (iv_add hj4_L2_7l (iv_c (x := (1 : Int32)) (k := 1) (by decide)) (by decide)) (by decide)
        have s18 : v18.toInt = j4_L2.toInt + 1 := by rw [e18, iv_addE hj4_L2_7l (iv_c (x := (1 : Int32)) (k := 1) (by decide)) (by decide)]; rfl
        refine lv_iinc (v := v18) (lv' := [(2, .int v18), (1, .int v16), (0, .int x0)]) hx hb dX10_ones_18 hl (k := 2) rfl (by rw [e18]; rfl) (by decide) rfl (fun ls hl => ?_)
        refine lv_goto (tgt := 4) hx hb dX10_ones_21 (by decide) ?_
        exact ih4 v16 v18 _ _ (ms_up hms4 (by have := s18; omega) (iv_w (c := 1) (d := 8) hv18 (by decide)).2) (iv_w hv16 (by decide)) (iv_w hv18 (by decide))  hS (lv_sub hl [2, 1, 0] rfl)
  refine lv_istore_n (lv' := [(2, .int (0 : Int32)), (1, .int (0 : Int32)), (0, .int x0)]) hx hb dX10_ones_3 rfl hl (by decide) rfl (fun ls hl => ?_)
  exact J4 _ (0 : Int32) (0 : Int32) _ _ (Nat.lt_succ_self _) (iv_w (iv_c (x := (0 : Int32)) (k := 0) (by decide)) (by decide)) (iv_w (iv_c (x := (0 : Int32)) (k := 0) (by decide)) (by decide))  hS (lv_sub hl [2, 1, 0] rfl)
set_option maxHeartbeats 4000000 in
set_option maxRecDepth 100000 in
theorem t_X10_lossEach (l : Launch) {D : va_G} {c0 : Nat → ClassId} {Y : Nat → Option Nat} {ν : Nat → Nat} {H : Heap} (hT : TI D vwCl (tysOf c0) (RTg ν) Y H) {a0 : Nat} (ha0 : Y a0 = some 10) (hU : uq Y) : Met l yX10_lossEach (wz yX10_lossEach cX10_lossEach 1 (some .int)) { frames := 4, cells := 0, slots := 0, locals := 105 } (TP D vwCl (tysOf c0) H [.ref a0]) (TQi (fun x H' => H' = H ∧ iv x 0 2147483647) Y []) 0 0 (pW Y []) := by
  refine Met.ofW (cc := cX10_lossEach) (maxL := 1) (ret := (some .int)) (by decide) rfl ?_
  intro p e s m args below meth c s₁ B hml hv
  obtain ⟨rfl, rfl, hK⟩ := hv
  have hx := B.exec
  have hb := B.bytes
  have hr := B.returns
  have hts : ∀ w ∈ wq, w.before _ s = true := fun w h => atoms_spec (ws := wz yX10_lossEach cX10_lossEach 1 (some .int)) B.pre w (List.mem_cons_of_mem _ h)
  have hown : s.vm.findClass RX10 = some m.cls := findClass_of_methodNamed B.named
  have hlocks := B.notSynchronized
  obtain ⟨R, hR⟩ : ∃ R : Room, R = ({ frames := 4, cells := 0, slots := 0, locals := 105 } : Room) := ⟨_, rfl⟩
  rw [show (headSpec (wz yX10_lossEach cX10_lossEach 1 (some .int)) { frames := 4, cells := 0, slots := 0, locals := 105 }).room = R from hR.symm]
  refine ti_mi hx hb hr hlocks (fun Q ret => ?_)
  have hl := lv_entry [.ref a0] (n := 1) (Nat.le_of_ble_eq_true rfl)
  rw [lg_entry_eq]
  generalize (lg_sl [.ref a0] ++ List.replicate (1 - (lg_sl [.ref a0]).length) Slot.unset).toArray = ls at hl ⊢
  have hl : lv_has ls 1 [(0, .ref a0)] := hl
  have hS : va_S (pW Y []) s.heap s.heap [] := va_S.rf
  refine lv_aload_n hx hb dX10_lossEach_0 rfl (lv_at hl 0 rfl) ?_
  refine ti_getr hx hb hts inlX10 hown hK hT ha0 rfl rfl rfl 1 (by decide) (hts _ kw_130) (fun _ h9 => h9) rfl dX10_lossEach_1 (fun v1 hv1 hm1 => ?_)
  refine lv_bipush (v := 13) hx hb dX10_lossEach_4 (by decide) ?_
  refine ti_iald (lo := (-2147483648)) (hi := 2147483647) hx hb (aT0 hK) hT hv1 rfl (iv_c (x := (13 : Int32)) (k := 13) (by decide)) (by decide) (one_j 13 rfl rfl (by decide) (by decide)) dX10_lossEach_6 (fun v6 hv6 hm6 => ?_)
  refine lv_iconst (v := 1) hx hb dX10_lossEach_7 (by decide) ?_
  have J27 : ∀  (locs : List Loc) (ls : Array Slot), va_S (pW Y []) s.heap s.heap locs → lv_has ls 1 [(0, .ref a0)] → W p l e R s m ([.ref a0] : List Value).toArray below meth c s.heap locs 0 0 Q (F0 m 27 ls []) := by
    intro  locs ls  hS hl
    refine lv_iconst (v := 0) hx hb dX10_lossEach_27 (by decide) ?_
    refine lv_goto (tgt := 51) hx hb dX10_lossEach_28 (by decide) ?_
    exact ret _ _ _ _ _ dX10_lossEach_51 (⟨rfl, iv_w (iv_c (x := (0 : Int32)) (k := 0) (by decide)) (by decide)⟩) hS
  refine lv_icmp_eq (tgt := 27) hx hb dX10_lossEach_8 (by decide) (fun c8 => ?_) (fun c8 => ?_)
  · skip
    have kl1 : (1 : Int32).toInt = 1 := by decide
    have f8 := i_eq c8
    have hv6_8l : iv v6 1 1 := iv_eql hv6 (iv_c (x := (1 : Int32)) (k := 1) (by decide)) c8 (by decide)
    exact J27  _ _    hS (lv_sub hl [0] rfl)
  · skip
    have kl1 : (1 : Int32).toInt = 1 := by decide
    have f8 := i_ne c8
    refine lv_aload_n hx hb dX10_lossEach_11 rfl (lv_at hl 0 rfl) ?_
    refine ti_calli (va_runV (As := []) (rest := []) ⟨hx, hb, hml, hown, hts⟩ (t_X10_topSet l hT ha0 hU) (cwV 0 hts (good_V kw_609 kw_610 kw_611 kw_5 kw_612) rfl rfl rfl (by decide +kernel) ⟨by rw [hR]; decide, by rw [hR]; decide⟩) (ti_preV hK hT ha0 rfl rfl) rfl rfl hl.1 rfl (lv_room (Nat.le_of_ble_eq_true rfl)) dX10_lossEach_12 ⟨Nat.zero_le _, Nat.zero_le _⟩) hS (pW_sub rfl) (fun v12 H1 locs hB hS _ hk12 => ?_)
    have hH := hB
    rw [hH] at hS ⊢
    refine ti_calli (va_runS (As := [.int v12]) (rest := []) ⟨hx, hb, hml, hown, hts⟩ (t_X10_ones l hT (iv_w (iv_top v12) (by decide))) (cwS 1 hts (good_S kw_653 kw_654 kw_5 kw_655) rfl rfl rfl (by decide +kernel) ⟨by rw [hR]; decide, by rw [hR]; decide⟩) (ti_preS hK) rfl rfl hl.1 rfl (lv_room (Nat.le_of_ble_eq_true rfl)) dX10_lossEach_15 ⟨Nat.zero_le _, Nat.zero_le _⟩) hS (pW_sub rfl) (fun v15 H1 locs hB hS _ hk15 => ?_)
    have hH := hB
    rw [hH] at hS ⊢
    refine lv_aload_n hx hb dX10_lossEach_18 rfl (lv_at hl 0 rfl) ?_
    refine ti_getE (ci := 10) (v := .ref v1) hx hb hts inlX10 hown hK hm1 rfl (by decide) (hts _ kw_130) (fun _ h9 => h9) dX10_lossEach_19 ?_
    refine lv_iconst (v := 3) hx hb dX10_lossEach_22 (by decide) ?_
    refine ti_iald (lo := (-2147483648)) (hi := 2147483647) hx hb (aT0 hK) hT hv1 rfl (iv_c (x := (3 : Int32)) (k := 3) (by decide)) (by decide) (one_j 3 rfl rfl (by decide) (by decide)) dX10_lossEach_23 (fun v23 hv23 hm23 => ?_)
    refine lv_icmp_lt (tgt := 31) hx hb dX10_lossEach_24 (by decide) (fun c24 => ?_) (fun c24 => ?_)
    · skip
      have f24 := i_lt c24
      have hv15_24l : iv v15 (-2147483648) 2147483646 := iv_ltl (iv_top v15) hv23 c24 (by decide)
      have hv23_24r : iv v23 (-2147483647) 2147483647 := iv_ltr hv15_24l hv23 c24 (by decide)
      refine lv_iconst (v := 0) hx hb dX10_lossEach_31 (by decide) ?_
      refine lv_aload_n hx hb dX10_lossEach_32 rfl (lv_at hl 0 rfl) ?_
      refine ti_calli (va_runV (As := []) (rest := [.int (0 : Int32)]) ⟨hx, hb, hml, hown, hts⟩ (t_X10_most l hT ha0 hU) (cwV 0 hts (good_V kw_613 kw_614 kw_615 kw_5 kw_616) rfl rfl rfl (by decide +kernel) ⟨by rw [hR]; decide, by rw [hR]; decide⟩) (ti_preV hK hT ha0 rfl rfl) rfl rfl hl.1 rfl (lv_room (Nat.le_of_ble_eq_true rfl)) dX10_lossEach_33 ⟨Nat.zero_le _, Nat.zero_le _⟩) hS (pW_sub rfl) (fun v33 H1 locs hB hS _ hk33 => ?_)
      obtain ⟨hH, hv33⟩ := hB
      rw [hH] at hS ⊢
      refine lv_aload_n hx hb dX10_lossEach_36 rfl (lv_at hl 0 rfl) ?_
      refine ti_calli (va_runV (As := []) (rest := [.int v33, .int (0 : Int32)]) ⟨hx, hb, hml, hown, hts⟩ (t_X10_nextMost l hT ha0 hU) (cwV 0 hts (good_V kw_629 kw_630 kw_631 kw_5 kw_632) rfl rfl rfl (by decide +kernel) ⟨by rw [hR]; decide, by rw [hR]; decide⟩) (ti_preV hK hT ha0 rfl rfl) rfl rfl hl.1 rfl (lv_room (Nat.le_of_ble_eq_true rfl)) dX10_lossEach_37 ⟨Nat.zero_le _, Nat.zero_le _⟩) hS (pW_sub rfl) (fun v37 H1 locs hB hS _ hk37 => ?_)
      obtain ⟨hH, hv37⟩ := hB
      rw [hH] at hS ⊢
      refine lv_isub hx hb dX10_lossEach_40 ?_
      refine lv_topi (fun v40 e40 => ?_)
      have hv40 : iv v40 (-2147483647) 2147483647 := by rw [e40]; exact iv_w (iv_sub hv33 hv37 (by decide)) (by decide)
      have s40 : v40.toInt = v33.toInt - v37.toInt := by rw [e40]; exact iv_subE hv33 hv37 (by decide)
      refine lv_aload_n hx hb dX10_lossEach_41 rfl (lv_at hl 0 rfl) ?_
      refine ti_getE (ci := 10) (v := .ref v1) hx hb hts inlX10 hown hK hm1 rfl (by decide) (hts _ kw_130) (fun _ h9 => h9) dX10_lossEach_42 ?_
      refine lv_iconst (v := 2) hx hb dX10_lossEach_45 (by decide) ?_
      refine ti_iald (lo := (-2147483648)) (hi := 2147483647) hx hb (aT0 hK) hT hv1 rfl (iv_c (x := (2 : Int32)) (k := 2) (by decide)) (by decide) (one_j 2 rfl rfl (by decide) (by decide)) dX10_lossEach_46 (fun v46 hv46 hm46 => ?_)
      refine lv_isub hx hb dX10_lossEach_47 ?_
      refine lv_topi (fun v47 e47 => ?_)
      have hv47 : iv v47 (-2147483648) 2147483647 := iv_top _
      refine va_mmax hx hb (by rw [hml]; exact hl.1.symm) hown (hts _ kw_617) (hts _ kw_618) (hts _ kw_212) (hts _ kw_619) (by rw [hR]; decide) (by rw [hR]; exact Nat.le_of_ble_eq_true rfl) (Nat.zero_le _) (Nat.zero_le _) dX10_lossEach_48 ?_
      refine lv_topi (fun v48 e48 => ?_)
      have hv48 : iv v48 0 2147483647 := by rw [e48]; exact iv_max (iv_c (x := (0 : Int32)) (k := 0) (by decide)) hv47 (by decide)
      exact ret _ _ _ _ _ dX10_lossEach_51 (⟨rfl, iv_w hv48 (by decide)⟩) hS
    · skip
      have f24 := i_nlt c24
      exact J27  _ _    hS (lv_sub hl [0] rfl)
set_option maxHeartbeats 4000000 in
set_option maxRecDepth 100000 in
theorem t_X10_lossOf (l : Launch) {D : va_G} {c0 : Nat → ClassId} {Y : Nat → Option Nat} {ν : Nat → Nat} {H : Heap} (hT : TI D vwCl (tysOf c0) (RTg ν) Y H) {a0 : Nat} (ha0 : Y a0 = some 10) {x1 : Int32} (hx1 : iv x1 0 7) (hU : uq Y) : Met l yX10_lossOf (wz yX10_lossOf cX10_lossOf 2 (some .int)) { frames := 5, cells := 0, slots := 0, locals := 125 } (TP D vwCl (tysOf c0) H [.ref a0, .int x1]) (TQi (fun x H' => H' = H ∧ iv x 0 2147483647) Y []) 0 0 (pW Y []) := by
  refine Met.ofW (cc := cX10_lossOf) (maxL := 2) (ret := (some .int)) (by decide) rfl ?_
  intro p e s m args below meth c s₁ B hml hv
  obtain ⟨rfl, rfl, hK⟩ := hv
  have hx := B.exec
  have hb := B.bytes
  have hr := B.returns
  have hts : ∀ w ∈ wq, w.before _ s = true := fun w h => atoms_spec (ws := wz yX10_lossOf cX10_lossOf 2 (some .int)) B.pre w (List.mem_cons_of_mem _ h)
  have hown : s.vm.findClass RX10 = some m.cls := findClass_of_methodNamed B.named
  have hlocks := B.notSynchronized
  obtain ⟨R, hR⟩ : ∃ R : Room, R = ({ frames := 5, cells := 0, slots := 0, locals := 125 } : Room) := ⟨_, rfl⟩
  rw [show (headSpec (wz yX10_lossOf cX10_lossOf 2 (some .int)) { frames := 5, cells := 0, slots := 0, locals := 125 }).room = R from hR.symm]
  refine ti_mi hx hb hr hlocks (fun Q ret => ?_)
  have hl := lv_entry [.ref a0, .int x1] (n := 2) (Nat.le_of_ble_eq_true rfl)
  rw [lg_entry_eq]
  generalize (lg_sl [.ref a0, .int x1] ++ List.replicate (2 - (lg_sl [.ref a0, .int x1]).length) Slot.unset).toArray = ls at hl ⊢
  have hl : lv_has ls 2 [(0, .ref a0), (1, .int x1)] := hl
  have hS : va_S (pW Y []) s.heap s.heap [] := va_S.rf
  refine lv_aload_n hx hb dX10_lossOf_0 rfl (lv_at hl 0 rfl) ?_
  refine ti_calli (va_runV (As := []) (rest := []) ⟨hx, hb, hml, hown, hts⟩ (t_X10_topSet l hT ha0 hU) (cwV 0 hts (good_V kw_609 kw_610 kw_611 kw_5 kw_612) rfl rfl rfl (by decide +kernel) ⟨by rw [hR]; decide, by rw [hR]; decide⟩) (ti_preV hK hT ha0 rfl rfl) rfl rfl hl.1 rfl (lv_room (Nat.le_of_ble_eq_true rfl)) dX10_lossOf_1 ⟨Nat.zero_le _, Nat.zero_le _⟩) hS (pW_sub rfl) (fun v1 H1 locs hB hS _ hk1 => ?_)
  have hH := hB
  rw [hH] at hS ⊢
  refine lv_iload_n hx hb dX10_lossOf_4 rfl (lv_at hl 1 rfl) ?_
  refine lv_ishr hx hb dX10_lossOf_5 ?_
  refine lv_topi (fun v5 e5 => ?_)
  have hv5 : iv v5 (-2147483648) 2147483647 := iv_top _
  refine lv_iconst (v := 1) hx hb dX10_lossOf_6 (by decide) ?_
  refine lv_iand hx hb dX10_lossOf_7 ?_
  refine lv_topi (fun v7 e7 => ?_)
  have hv7 : iv v7 0 1 := by rw [e7]; exact iv_and (iv_w (iv_c (x := (1 : Int32)) (k := 1) (by decide)) (by decide))
  refine lv_iconst (v := 1) hx hb dX10_lossOf_8 (by decide) ?_
  refine lv_icmp_ne (tgt := 19) hx hb dX10_lossOf_9 (by decide) (fun c9 => ?_) (fun c9 => ?_)
  · skip
    have kl1 : (1 : Int32).toInt = 1 := by decide
    have f9 := i_ne c9
    have hv7_9l : iv v7 0 0 := iv_nel hv7 (iv_c (x := (1 : Int32)) (k := 1) (by decide)) c9 (by decide)
    refine lv_iconst (v := 0) hx hb dX10_lossOf_19 (by decide) ?_
    exact ret _ _ _ _ _ dX10_lossOf_20 (⟨rfl, iv_w (iv_c (x := (0 : Int32)) (k := 0) (by decide)) (by decide)⟩) hS
  · skip
    have kl1 : (1 : Int32).toInt = 1 := by decide
    have f9 := i_eq c9
    have hv7_9l : iv v7 1 1 := iv_eql hv7 (iv_c (x := (1 : Int32)) (k := 1) (by decide)) c9 (by decide)
    refine lv_aload_n hx hb dX10_lossOf_12 rfl (lv_at hl 0 rfl) ?_
    refine ti_calli (va_runV (As := []) (rest := []) ⟨hx, hb, hml, hown, hts⟩ (t_X10_lossEach l hT ha0 hU) (cwV 0 hts (good_V kw_649 kw_650 kw_651 kw_5 kw_652) rfl rfl rfl (by decide +kernel) ⟨by rw [hR]; decide, by rw [hR]; decide⟩) (ti_preV hK hT ha0 rfl rfl) rfl rfl hl.1 rfl (lv_room (Nat.le_of_ble_eq_true rfl)) dX10_lossOf_13 ⟨Nat.zero_le _, Nat.zero_le _⟩) hS (pW_sub rfl) (fun v13 H1 locs hB hS _ hk13 => ?_)
    obtain ⟨hH, hv13⟩ := hB
    rw [hH] at hS ⊢
    refine lv_goto (tgt := 20) hx hb dX10_lossOf_16 (by decide) ?_
    exact ret _ _ _ _ _ dX10_lossOf_20 (⟨rfl, iv_w hv13 (by decide)⟩) hS
set_option maxHeartbeats 4000000 in
set_option maxRecDepth 100000 in
theorem t_X10_tops (l : Launch) {D : va_G} {c0 : Nat → ClassId} {Y : Nat → Option Nat} {ν : Nat → Nat} {H : Heap} (hT : TI D vwCl (tysOf c0) (RTg ν) Y H) {a0 : Nat} (ha0 : Y a0 = some 10) (hU : uq Y) : Met l yX10_tops (wz yX10_tops cX10_tops 1 (some .int)) { frames := 4, cells := 0, slots := 0, locals := 105 } (TP D vwCl (tysOf c0) H [.ref a0]) (TQi (fun x H' => H' = H) Y []) 0 0 (pW Y []) := by
  refine Met.ofW (cc := cX10_tops) (maxL := 1) (ret := (some .int)) (by decide) rfl ?_
  intro p e s m args below meth c s₁ B hml hv
  obtain ⟨rfl, rfl, hK⟩ := hv
  have hx := B.exec
  have hb := B.bytes
  have hr := B.returns
  have hts : ∀ w ∈ wq, w.before _ s = true := fun w h => atoms_spec (ws := wz yX10_tops cX10_tops 1 (some .int)) B.pre w (List.mem_cons_of_mem _ h)
  have hown : s.vm.findClass RX10 = some m.cls := findClass_of_methodNamed B.named
  have hlocks := B.notSynchronized
  obtain ⟨R, hR⟩ : ∃ R : Room, R = ({ frames := 4, cells := 0, slots := 0, locals := 105 } : Room) := ⟨_, rfl⟩
  rw [show (headSpec (wz yX10_tops cX10_tops 1 (some .int)) { frames := 4, cells := 0, slots := 0, locals := 105 }).room = R from hR.symm]
  refine ti_mi hx hb hr hlocks (fun Q ret => ?_)
  have hl := lv_entry [.ref a0] (n := 1) (Nat.le_of_ble_eq_true rfl)
  rw [lg_entry_eq]
  generalize (lg_sl [.ref a0] ++ List.replicate (1 - (lg_sl [.ref a0]).length) Slot.unset).toArray = ls at hl ⊢
  have hl : lv_has ls 1 [(0, .ref a0)] := hl
  have hS : va_S (pW Y []) s.heap s.heap [] := va_S.rf
  refine lv_aload_n hx hb dX10_tops_0 rfl (lv_at hl 0 rfl) ?_
  refine ti_calli (va_runV (As := []) (rest := []) ⟨hx, hb, hml, hown, hts⟩ (t_X10_people l hT ha0 hU) (cwV 0 hts (good_V kw_605 kw_606 kw_607 kw_5 kw_608) rfl rfl rfl (by decide +kernel) ⟨by rw [hR]; decide, by rw [hR]; decide⟩) (ti_preV hK hT ha0 rfl rfl) rfl rfl hl.1 rfl (lv_room (Nat.le_of_ble_eq_true rfl)) dX10_tops_1 ⟨Nat.zero_le _, Nat.zero_le _⟩) hS (pW_sub rfl) (fun v1 H1 locs hB hS _ hk1 => ?_)
  obtain ⟨hH, hv1, hp1⟩ := hB
  rw [hH] at hS ⊢
  refine lv_if_le (tgt := 14) hx hb dX10_tops_4 (by decide) (fun c4 => ?_) (fun c4 => ?_)
  · skip
    have kl0 : (0 : Int32).toInt = 0 := by decide
    have f4 := i_le c4
    have hv1_4l : iv v1 0 0 := iv_lel hv1 (iv_c (x := (0 : Int32)) (k := 0) (by decide)) c4 (by decide)
    refine lv_bipush (v := (-2)) hx hb dX10_tops_14 (by decide) ?_
    exact ret _ _ _ _ _ dX10_tops_16 (rfl) hS
  · skip
    have kl0 : (0 : Int32).toInt = 0 := by decide
    have f4 := i_nle c4
    have hv1_4r : iv v1 1 8 := iv_ltr (iv_c (x := (0 : Int32)) (k := 0) (by decide)) hv1 (Int32.not_le.mp c4) (by decide)
    refine lv_aload_n hx hb dX10_tops_7 rfl (lv_at hl 0 rfl) ?_
    refine ti_calli (va_runV (As := []) (rest := []) ⟨hx, hb, hml, hown, hts⟩ (t_X10_topSet l hT ha0 hU) (cwV 0 hts (good_V kw_609 kw_610 kw_611 kw_5 kw_612) rfl rfl rfl (by decide +kernel) ⟨by rw [hR]; decide, by rw [hR]; decide⟩) (ti_preV hK hT ha0 rfl rfl) rfl rfl hl.1 rfl (lv_room (Nat.le_of_ble_eq_true rfl)) dX10_tops_8 ⟨Nat.zero_le _, Nat.zero_le _⟩) hS (pW_sub rfl) (fun v8 H1 locs hB hS _ hk8 => ?_)
    have hH := hB
    rw [hH] at hS ⊢
    refine lv_goto (tgt := 16) hx hb dX10_tops_11 (by decide) ?_
    exact ret _ _ _ _ _ dX10_tops_16 (rfl) hS
set_option maxHeartbeats 4000000 in
set_option maxRecDepth 100000 in
theorem t_X10_next (l : Launch) {D : va_G} {c0 : Nat → ClassId} {Y : Nat → Option Nat} {ν : Nat → Nat} {H : Heap} (hT : TI D vwCl (tysOf c0) (RTg ν) Y H) {a0 : Nat} (ha0 : Y a0 = some 10) (hU : uq Y) : Met l yX10_next (wz yX10_next cX10_next 1 (some .int)) { frames := 4, cells := 0, slots := 0, locals := 105 } (TP D vwCl (tysOf c0) H [.ref a0]) (TQi (fun x H' => H' = H ∧ iv x (-2) 2147483647) Y []) 0 0 (pW Y []) := by
  refine Met.ofW (cc := cX10_next) (maxL := 1) (ret := (some .int)) (by decide) rfl ?_
  intro p e s m args below meth c s₁ B hml hv
  obtain ⟨rfl, rfl, hK⟩ := hv
  have hx := B.exec
  have hb := B.bytes
  have hr := B.returns
  have hts : ∀ w ∈ wq, w.before _ s = true := fun w h => atoms_spec (ws := wz yX10_next cX10_next 1 (some .int)) B.pre w (List.mem_cons_of_mem _ h)
  have hown : s.vm.findClass RX10 = some m.cls := findClass_of_methodNamed B.named
  have hlocks := B.notSynchronized
  obtain ⟨R, hR⟩ : ∃ R : Room, R = ({ frames := 4, cells := 0, slots := 0, locals := 105 } : Room) := ⟨_, rfl⟩
  rw [show (headSpec (wz yX10_next cX10_next 1 (some .int)) { frames := 4, cells := 0, slots := 0, locals := 105 }).room = R from hR.symm]
  refine ti_mi hx hb hr hlocks (fun Q ret => ?_)
  have hl := lv_entry [.ref a0] (n := 1) (Nat.le_of_ble_eq_true rfl)
  rw [lg_entry_eq]
  generalize (lg_sl [.ref a0] ++ List.replicate (1 - (lg_sl [.ref a0]).length) Slot.unset).toArray = ls at hl ⊢
  have hl : lv_has ls 1 [(0, .ref a0)] := hl
  have hS : va_S (pW Y []) s.heap s.heap [] := va_S.rf
  refine lv_aload_n hx hb dX10_next_0 rfl (lv_at hl 0 rfl) ?_
  refine ti_calli (va_runV (As := []) (rest := []) ⟨hx, hb, hml, hown, hts⟩ (t_X10_people l hT ha0 hU) (cwV 0 hts (good_V kw_605 kw_606 kw_607 kw_5 kw_608) rfl rfl rfl (by decide +kernel) ⟨by rw [hR]; decide, by rw [hR]; decide⟩) (ti_preV hK hT ha0 rfl rfl) rfl rfl hl.1 rfl (lv_room (Nat.le_of_ble_eq_true rfl)) dX10_next_1 ⟨Nat.zero_le _, Nat.zero_le _⟩) hS (pW_sub rfl) (fun v1 H1 locs hB hS _ hk1 => ?_)
  obtain ⟨hH, hv1, hp1⟩ := hB
  rw [hH] at hS ⊢
  refine lv_if_le (tgt := 14) hx hb dX10_next_4 (by decide) (fun c4 => ?_) (fun c4 => ?_)
  · skip
    have kl0 : (0 : Int32).toInt = 0 := by decide
    have f4 := i_le c4
    have hv1_4l : iv v1 0 0 := iv_lel hv1 (iv_c (x := (0 : Int32)) (k := 0) (by decide)) c4 (by decide)
    refine lv_bipush (v := (-2)) hx hb dX10_next_14 (by decide) ?_
    exact ret _ _ _ _ _ dX10_next_16 (⟨rfl, iv_w (iv_c (x := (-2 : Int32)) (k := (-2)) (by decide)) (by decide)⟩) hS
  · skip
    have kl0 : (0 : Int32).toInt = 0 := by decide
    have f4 := i_nle c4
    have hv1_4r : iv v1 1 8 := iv_ltr (iv_c (x := (0 : Int32)) (k := 0) (by decide)) hv1 (Int32.not_le.mp c4) (by decide)
    refine lv_aload_n hx hb dX10_next_7 rfl (lv_at hl 0 rfl) ?_
    refine ti_calli (va_runV (As := []) (rest := []) ⟨hx, hb, hml, hown, hts⟩ (t_X10_nextMost l hT ha0 hU) (cwV 0 hts (good_V kw_629 kw_630 kw_631 kw_5 kw_632) rfl rfl rfl (by decide +kernel) ⟨by rw [hR]; decide, by rw [hR]; decide⟩) (ti_preV hK hT ha0 rfl rfl) rfl rfl hl.1 rfl (lv_room (Nat.le_of_ble_eq_true rfl)) dX10_next_8 ⟨Nat.zero_le _, Nat.zero_le _⟩) hS (pW_sub rfl) (fun v8 H1 locs hB hS _ hk8 => ?_)
    obtain ⟨hH, hv8⟩ := hB
    rw [hH] at hS ⊢
    refine lv_goto (tgt := 16) hx hb dX10_next_11 (by decide) ?_
    exact ret _ _ _ _ _ dX10_next_16 (⟨rfl, iv_w hv8 (by decide)⟩) hS
set_option maxHeartbeats 4000000 in
set_option maxRecDepth 100000 in
theorem t_X10_loses (l : Launch) {D : va_G} {c0 : Nat → ClassId} {Y : Nat → Option Nat} {ν : Nat → Nat} {H : Heap} (hT : TI D vwCl (tysOf c0) (RTg ν) Y H) {a0 : Nat} (ha0 : Y a0 = some 10) {x1 : Int32} (hx1 : iv x1 (-2147483648) 2147483647) (hU : uq Y) : Met l yX10_loses (wz yX10_loses cX10_loses 2 (some .int)) { frames := 6, cells := 0, slots := 0, locals := 146 } (TP D vwCl (tysOf c0) H [.ref a0, .int x1]) (TQi (fun x H' => H' = H ∧ iv x (-2) 2147483647) Y []) 0 0 (pW Y []) := by
  refine Met.ofW (cc := cX10_loses) (maxL := 2) (ret := (some .int)) (by decide) rfl ?_
  intro p e s m args below meth c s₁ B hml hv
  obtain ⟨rfl, rfl, hK⟩ := hv
  have hx := B.exec
  have hb := B.bytes
  have hr := B.returns
  have hts : ∀ w ∈ wq, w.before _ s = true := fun w h => atoms_spec (ws := wz yX10_loses cX10_loses 2 (some .int)) B.pre w (List.mem_cons_of_mem _ h)
  have hown : s.vm.findClass RX10 = some m.cls := findClass_of_methodNamed B.named
  have hlocks := B.notSynchronized
  obtain ⟨R, hR⟩ : ∃ R : Room, R = ({ frames := 6, cells := 0, slots := 0, locals := 146 } : Room) := ⟨_, rfl⟩
  rw [show (headSpec (wz yX10_loses cX10_loses 2 (some .int)) { frames := 6, cells := 0, slots := 0, locals := 146 }).room = R from hR.symm]
  refine ti_mi hx hb hr hlocks (fun Q ret => ?_)
  have hl := lv_entry [.ref a0, .int x1] (n := 2) (Nat.le_of_ble_eq_true rfl)
  rw [lg_entry_eq]
  generalize (lg_sl [.ref a0, .int x1] ++ List.replicate (2 - (lg_sl [.ref a0, .int x1]).length) Slot.unset).toArray = ls at hl ⊢
  have hl : lv_has ls 2 [(0, .ref a0), (1, .int x1)] := hl
  have hS : va_S (pW Y []) s.heap s.heap [] := va_S.rf
  refine lv_aload_n hx hb dX10_loses_0 rfl (lv_at hl 0 rfl) ?_
  refine lv_iload_n hx hb dX10_loses_1 rfl (lv_at hl 1 rfl) ?_
  refine ti_calli (va_runV (As := [.int x1]) (rest := []) ⟨hx, hb, hml, hown, hts⟩ (t_X10_isPerson l hT ha0 (iv_w hx1 (by decide)) hU) (cwV 1 hts (good_V kw_486 kw_487 kw_488 kw_5 kw_489) rfl rfl rfl (by decide +kernel) ⟨by rw [hR]; decide, by rw [hR]; decide⟩) (ti_preV hK hT ha0 rfl rfl) rfl rfl hl.1 rfl (lv_room (Nat.le_of_ble_eq_true rfl)) dX10_loses_2 ⟨Nat.zero_le _, Nat.zero_le _⟩) hS (pW_sub rfl) (fun v2 H1 locs hB hS _ hk2 => ?_)
  obtain ⟨hH, hv2, hp2⟩ := hB
  rw [hH] at hS ⊢
  refine lv_if_eq (tgt := 16) hx hb dX10_loses_5 (by decide) (fun c5 => ?_) (fun c5 => ?_)
  · skip
    have kl0 : (0 : Int32).toInt = 0 := by decide
    have f5 := i_eq c5
    have hv2_5l : iv v2 0 0 := iv_eql hv2 (iv_c (x := (0 : Int32)) (k := 0) (by decide)) c5 (by decide)
    refine lv_bipush (v := (-2)) hx hb dX10_loses_16 (by decide) ?_
    exact ret _ _ _ _ _ dX10_loses_18 (⟨rfl, iv_w (iv_c (x := (-2 : Int32)) (k := (-2)) (by decide)) (by decide)⟩) hS
  · skip
    have kl0 : (0 : Int32).toInt = 0 := by decide
    have f5 := i_ne c5
    have hv2_5l : iv v2 1 1 := iv_nel hv2 (iv_c (x := (0 : Int32)) (k := 0) (by decide)) c5 (by decide)
    have hx1_5p : iv x1 0 7 := by have b0a := (hx1).1; have b0b := (hx1).2; exact ⟨by omega, by omega⟩
    refine lv_aload_n hx hb dX10_loses_8 rfl (lv_at hl 0 rfl) ?_
    refine lv_iload_n hx hb dX10_loses_9 rfl (lv_at hl 1 rfl) ?_
    refine ti_calli (va_runV (As := [.int x1]) (rest := []) ⟨hx, hb, hml, hown, hts⟩ (t_X10_lossOf l hT ha0 (iv_w hx1_5p (by decide)) hU) (cwV 1 hts (good_V kw_645 kw_646 kw_647 kw_5 kw_648) rfl rfl rfl (by decide +kernel) ⟨by rw [hR]; decide, by rw [hR]; decide⟩) (ti_preV hK hT ha0 rfl rfl) rfl rfl hl.1 rfl (lv_room (Nat.le_of_ble_eq_true rfl)) dX10_loses_10 ⟨Nat.zero_le _, Nat.zero_le _⟩) hS (pW_sub rfl) (fun v10 H1 locs hB hS _ hk10 => ?_)
    obtain ⟨hH, hv10⟩ := hB
    rw [hH] at hS ⊢
    refine lv_goto (tgt := 18) hx hb dX10_loses_13 (by decide) ?_
    exact ret _ _ _ _ _ dX10_loses_18 (⟨rfl, iv_w hv10 (by decide)⟩) hS
set_option maxHeartbeats 4000000 in
set_option maxRecDepth 100000 in
theorem t_X10_losing (l : Launch) {D : va_G} {c0 : Nat → ClassId} {Y : Nat → Option Nat} {ν : Nat → Nat} {H : Heap} (hT : TI D vwCl (tysOf c0) (RTg ν) Y H) {a0 : Nat} (ha0 : Y a0 = some 10) (hU : uq Y) : Met l yX10_losing (wz yX10_losing cX10_losing 7 (some .int)) { frames := 5, cells := 0, slots := 0, locals := 125 } (TP D vwCl (tysOf c0) H [.ref a0]) (TQi (fun x H' => TI D vwCl (tysOf c0) (RTg ν) Y H') Y [29, 30]) 0 0 (pW Y [29, 30]) := by
  refine Met.ofW (cc := cX10_losing) (maxL := 7) (ret := (some .int)) (by decide) rfl ?_
  intro p e s m args below meth c s₁ B hml hv
  obtain ⟨rfl, rfl, hK⟩ := hv
  have hx := B.exec
  have hb := B.bytes
  have hr := B.returns
  have hts : ∀ w ∈ wq, w.before _ s = true := fun w h => atoms_spec (ws := wz yX10_losing cX10_losing 7 (some .int)) B.pre w (List.mem_cons_of_mem _ h)
  have hown : s.vm.findClass RX10 = some m.cls := findClass_of_methodNamed B.named
  have hlocks := B.notSynchronized
  obtain ⟨R, hR⟩ : ∃ R : Room, R = ({ frames := 5, cells := 0, slots := 0, locals := 125 } : Room) := ⟨_, rfl⟩
  rw [show (headSpec (wz yX10_losing cX10_losing 7 (some .int)) { frames := 5, cells := 0, slots := 0, locals := 125 }).room = R from hR.symm]
  refine ti_mi hx hb hr hlocks (fun Q ret => ?_)
  have hl := lv_entry [.ref a0] (n := 7) (Nat.le_of_ble_eq_true rfl)
  rw [lg_entry_eq]
  generalize (lg_sl [.ref a0] ++ List.replicate (7 - (lg_sl [.ref a0]).length) Slot.unset).toArray = ls at hl ⊢
  have hl : lv_has ls 7 [(0, .ref a0)] := hl
  refine ti_gen (P := fun H => TI D vwCl (tysOf c0) (RTg ν) Y H) (Y := Y) (ws := [29, 30]) hT (fun H locs hT hS => ?_)
  refine lv_aload_n hx hb dX10_losing_0 rfl (lv_at hl 0 rfl) ?_
  refine ti_calli (va_runV (As := []) (rest := []) ⟨hx, hb, hml, hown, hts⟩ (t_X10_lossEach l hT ha0 hU) (cwV 0 hts (good_V kw_649 kw_650 kw_651 kw_5 kw_652) rfl rfl rfl (by decide +kernel) ⟨by rw [hR]; decide, by rw [hR]; decide⟩) (ti_preV hK hT ha0 rfl rfl) rfl rfl hl.1 rfl (lv_room (Nat.le_of_ble_eq_true rfl)) dX10_losing_1 ⟨Nat.zero_le _, Nat.zero_le _⟩) hS (pW_sub rfl) (fun v1 H1 locs hB hS _ hk1 => ?_)
  obtain ⟨hH, hv1⟩ := hB
  rw [hH] at hS ⊢
  refine lv_istore_n (lv' := [(1, .int v1), (0, .ref a0)]) hx hb dX10_losing_4 rfl hl (by decide) rfl (fun ls hl => ?_)
  refine lv_aload_n hx hb dX10_losing_5 rfl (lv_at hl 1 rfl) ?_
  refine ti_calli (va_runV (As := []) (rest := []) ⟨hx, hb, hml, hown, hts⟩ (t_X10_topSet l hT ha0 hU) (cwV 0 hts (good_V kw_609 kw_610 kw_611 kw_5 kw_612) rfl rfl rfl (by decide +kernel) ⟨by rw [hR]; decide, by rw [hR]; decide⟩) (ti_preV hK hT ha0 rfl rfl) rfl rfl hl.1 rfl (lv_room (Nat.le_of_ble_eq_true rfl)) dX10_losing_6 ⟨Nat.zero_le _, Nat.zero_le _⟩) hS (pW_sub rfl) (fun v6 H1 locs hB hS _ hk6 => ?_)
  have hH := hB
  rw [hH] at hS ⊢
  refine lv_istore_n (lv' := [(2, .int v6), (1, .int v1), (0, .ref a0)]) hx hb dX10_losing_9 rfl hl (by decide) rfl (fun ls hl => ?_)
  refine lv_iload_n hx hb dX10_losing_10 rfl (lv_at hl 1 rfl) ?_
  refine lv_if_ne (tgt := 16) hx hb dX10_losing_11 (by decide) (fun c11 => ?_) (fun c11 => ?_)
  · skip
    have kl0 : (0 : Int32).toInt = 0 := by decide
    have f11 := i_ne c11
    have hv1_11l : iv v1 1 2147483647 := iv_nel hv1 (iv_c (x := (0 : Int32)) (k := 0) (by decide)) c11 (by decide)
    refine lv_iload_n hx hb dX10_losing_16 rfl (lv_at hl 1 rfl) ?_
    refine lv_iload_n hx hb dX10_losing_17 rfl (lv_at hl 0 rfl) ?_
    refine ti_calli (va_runS (As := [.int v6]) (rest := [.int v1]) ⟨hx, hb, hml, hown, hts⟩ (t_X10_ones l hT (iv_w (iv_top v6) (by decide))) (cwS 1 hts (good_S kw_653 kw_654 kw_5 kw_655) rfl rfl rfl (by decide +kernel) ⟨by rw [hR]; decide, by rw [hR]; decide⟩) (ti_preS hK) rfl rfl hl.1 rfl (lv_room (Nat.le_of_ble_eq_true rfl)) dX10_losing_18 ⟨Nat.zero_le _, Nat.zero_le _⟩) hS (pW_sub rfl) (fun v18 H1 locs hB hS _ hk18 => ?_)
    have hH := hB
    rw [hH] at hS ⊢
    refine lv_imul hx hb dX10_losing_21 ?_
    refine lv_topi (fun v21 e21 => ?_)
    have hv21 : iv v21 (-2147483648) 2147483647 := iv_top _
    refine lv_istore_n (lv' := [(3, .int v21), (2, .int v6), (1, .int v1), (0, .ref a0)]) hx hb dX10_losing_22 rfl hl (by decide) rfl (fun ls hl => ?_)
    refine lv_iconst (v := 0) hx hb dX10_losing_23 (by decide) ?_
    have J26 : ∀ (n : Nat) (j26_L4 : Int32) (H : Heap) (locs : List Loc) (ls : Array Slot), (8 - j26_L4.toInt).toNat < n → iv j26_L4 0 8 → TI D vwCl (tysOf c0) (RTg ν) Y H → va_S (pW Y [29, 30]) s.heap H locs → lv_has ls 7 [(0, .ref a0), (1, .int v1), (2, .int v6), (3, .int v21), (4, .int j26_L4)] → W p l e R s m ([.ref a0] : List Value).toArray below meth c H locs 0 0 Q (F0 m 26 ls []) := by
      intro n
      induction n with
      | zero => intro j26_L4 H locs ls hms; exact absurd hms (Nat.not_lt_zero _)
      | succ n ih26 =>
        intro j26_L4 H locs ls hms26 hj26_L4 hT hS hl
        refine lv_iload hx hb dX10_losing_26 (lv_at hl 4 rfl) ?_
        refine lv_aload_n hx hb dX10_losing_28 rfl (lv_at hl 0 rfl) ?_
        refine ti_calli (va_runV (As := []) (rest := [.int j26_L4]) ⟨hx, hb, hml, hown, hts⟩ (t_X10_people l hT ha0 hU) (cwV 0 hts (good_V kw_605 kw_606 kw_607 kw_5 kw_608) rfl rfl rfl (by decide +kernel) ⟨by rw [hR]; decide, by rw [hR]; decide⟩) (ti_preV hK hT ha0 rfl rfl) rfl rfl hl.1 rfl (lv_room (Nat.le_of_ble_eq_true rfl)) dX10_losing_29 ⟨Nat.zero_le _, Nat.zero_le _⟩) hS (pW_sub rfl) (fun v29 H1 locs hB hS _ hk29 => ?_)
        obtain ⟨hH, hv29, hp29⟩ := hB
        rw [hH] at hS ⊢
        refine lv_icmp_ge (tgt := 79) hx hb dX10_losing_32 (by decide) (fun c32 => ?_) (fun c32 => ?_)
        · skip
          have f32 := i_le c32
          refine lv_aload_n hx hb dX10_losing_79 rfl (lv_at hl 0 rfl) ?_
          refine ti_calli (va_runV (As := []) (rest := []) ⟨hx, hb, hml, hown, hts⟩ (t_X10_people l hT ha0 hU) (cwV 0 hts (good_V kw_605 kw_606 kw_607 kw_5 kw_608) rfl rfl rfl (by decide +kernel) ⟨by rw [hR]; decide, by rw [hR]; decide⟩) (ti_preV hK hT ha0 rfl rfl) rfl rfl hl.1 rfl (lv_room (Nat.le_of_ble_eq_true rfl)) dX10_losing_80 ⟨Nat.zero_le _, Nat.zero_le _⟩) hS (pW_sub rfl) (fun v80 H1 locs hB hS _ hk80 => ?_)
          obtain ⟨hH, hv80, hp80⟩ := hB
          rw [hH] at hS ⊢
          refine lv_iload_n hx hb dX10_losing_83 rfl (lv_at hl 2 rfl) ?_
          refine ti_calli (va_runS (As := [.int v6]) (rest := [.int v80]) ⟨hx, hb, hml, hown, hts⟩ (t_X10_ones l hT (iv_w (iv_top v6) (by decide))) (cwS 1 hts (good_S kw_653 kw_654 kw_5 kw_655) rfl rfl rfl (by decide +kernel) ⟨by rw [hR]; decide, by rw [hR]; decide⟩) (ti_preS hK) rfl rfl hl.1 rfl (lv_room (Nat.le_of_ble_eq_true rfl)) dX10_losing_84 ⟨Nat.zero_le _, Nat.zero_le _⟩) hS (pW_sub rfl) (fun v84 H1 locs hB hS _ hk84 => ?_)
          have hH := hB
          rw [hH] at hS ⊢
          refine lv_isub hx hb dX10_losing_87 ?_
          refine lv_topi (fun v87 e87 => ?_)
          have hv87 : iv v87 (-2147483648) 2147483647 := iv_top _
          refine lv_istore (lv' := [(4, .int v87), (0, .ref a0), (1, .int v1), (2, .int v6), (3, .int v21)]) hx hb dX10_losing_88 hl (by decide) rfl (fun ls hl => ?_)
          refine lv_aload_n hx hb dX10_losing_90 rfl (lv_at hl 1 rfl) ?_
          refine ti_getr hx hb hts inlX10 hown hK hT ha0 rfl rfl rfl 1 (by decide) (hts _ kw_130) (fun _ h9 => h9) rfl dX10_losing_91 (fun v91 hv91 hm91 => ?_)
          refine lv_iconst (v := 4) hx hb dX10_losing_94 (by decide) ?_
          refine ti_iald (lo := (-2147483648)) (hi := 2147483647) hx hb (aT0 hK) hT hv91 rfl (iv_c (x := (4 : Int32)) (k := 4) (by decide)) (by decide) (one_j 4 rfl rfl (by decide) (by decide)) dX10_losing_95 (fun v95 hv95 hm95 => ?_)
          refine lv_iconst (v := 1) hx hb dX10_losing_96 (by decide) ?_
          have J113 : ∀ (j113_S0 : Int32) (H : Heap) (locs : List Loc) (ls : Array Slot), iv j113_S0 (-2147483648) 2147483647 → TI D vwCl (tysOf c0) (RTg ν) Y H → va_S (pW Y [29, 30]) s.heap H locs → lv_has ls 7 [(0, .ref a0), (1, .int v1), (2, .int v6), (3, .int v21), (4, .int v87)] → W p l e R s m ([.ref a0] : List Value).toArray below meth c H locs 0 0 Q (F0 m 113 ls [.int j113_S0]) := by
            intro j113_S0 H locs ls hj113_S0 hT hS hl
            refine lv_istore (lv' := [(5, .int j113_S0), (0, .ref a0), (1, .int v1), (2, .int v6), (3, .int v21), (4, .int v87)]) hx hb dX10_losing_113 hl (by decide) rfl (fun ls hl => ?_)
            refine lv_iconst (v := 0) hx hb dX10_losing_115 (by decide) ?_
            have J118 : ∀ (n : Nat) (j118_L6 : Int32) (H : Heap) (locs : List Loc) (ls : Array Slot), (8 - j118_L6.toInt).toNat < n → iv j118_L6 0 8 → TI D vwCl (tysOf c0) (RTg ν) Y H → va_S (pW Y [29, 30]) s.heap H locs → lv_has ls 7 [(0, .ref a0), (1, .int v1), (2, .int v6), (3, .int v21), (4, .int v87), (5, .int j113_S0), (6, .int j118_L6)] → W p l e R s m ([.ref a0] : List Value).toArray below meth c H locs 0 0 Q (F0 m 118 ls []) := by
              intro n
              induction n with
              | zero => intro j118_L6 H locs ls hms; exact absurd hms (Nat.not_lt_zero _)
              | succ n ih118 =>
                intro j118_L6 H locs ls hms118 hj118_L6 hT hS hl
                refine lv_iload hx hb dX10_losing_118 (lv_at hl 6 rfl) ?_
                refine lv_aload_n hx hb dX10_losing_120 rfl (lv_at hl 0 rfl) ?_
                refine ti_calli (va_runV (As := []) (rest := [.int j118_L6]) ⟨hx, hb, hml, hown, hts⟩ (t_X10_people l hT ha0 hU) (cwV 0 hts (good_V kw_605 kw_606 kw_607 kw_5 kw_608) rfl rfl rfl (by decide +kernel) ⟨by rw [hR]; decide, by rw [hR]; decide⟩) (ti_preV hK hT ha0 rfl rfl) rfl rfl hl.1 rfl (lv_room (Nat.le_of_ble_eq_true rfl)) dX10_losing_121 ⟨Nat.zero_le _, Nat.zero_le _⟩) hS (pW_sub rfl) (fun v121 H1 locs hB hS _ hk121 => ?_)
                obtain ⟨hH, hv121, hp121⟩ := hB
                rw [hH] at hS ⊢
                refine lv_icmp_ge (tgt := 158) hx hb dX10_losing_124 (by decide) (fun c124 => ?_) (fun c124 => ?_)
                · skip
                  have f124 := i_le c124
                  refine lv_aload_n hx hb dX10_losing_158 rfl (lv_at hl 0 rfl) ?_
                  refine ti_getr hx hb hts inlX10 hown hK hT ha0 rfl rfl rfl 1 (by decide) (hts _ kw_130) (fun _ h9 => h9) rfl dX10_losing_159 (fun v159 hv159 hm159 => ?_)
                  obtain rfl : v91 = v159 := hU 30 v91 v159 (by decide) hv91 hv159
                  refine lv_iconst (v := 4) hx hb dX10_losing_162 (by decide) ?_
                  refine ti_iald (lo := (-2147483648)) (hi := 2147483647) hx hb (aT0 hK) hT hv91 rfl (iv_c (x := (4 : Int32)) (k := 4) (by decide)) (by decide) (one_j 4 rfl rfl (by decide) (by decide)) dX10_losing_163 (fun v163 hv163 hm163 => ?_)
                  refine lv_iconst (v := 2) hx hb dX10_losing_164 (by decide) ?_
                  refine lv_icmp_ge (tgt := 185) hx hb dX10_losing_165 (by decide) (fun c165 => ?_) (fun c165 => ?_)
                  · skip
                    have kl2 : (2 : Int32).toInt = 2 := by decide
                    have f165 := i_le c165
                    have hv163_165r : iv v163 2 2147483647 := iv_ler (iv_c (x := (2 : Int32)) (k := 2) (by decide)) hv163 c165 (by decide)
                    refine lv_iload_n hx hb dX10_losing_185 rfl (lv_at hl 3 rfl) ?_
                    exact ret _ _ _ _ _ dX10_losing_186 (hT) hS
                  · skip
                    have kl2 : (2 : Int32).toInt = 2 := by decide
                    have f165 := i_nle c165
                    have hv163_165l : iv v163 (-2147483648) 1 := iv_ltl hv163 (iv_c (x := (2 : Int32)) (k := 2) (by decide)) (Int32.not_le.mp c165) (by decide)
                    refine lv_aload_n hx hb dX10_losing_168 rfl (lv_at hl 0 rfl) ?_
                    refine ti_getE (ci := 10) (v := .ref v91) hx hb hts inlX10 hown hK hm159 rfl (by decide) (hts _ kw_130) (fun _ h9 => h9) dX10_losing_169 ?_
                    refine lv_bipush (v := 10) hx hb dX10_losing_172 (by decide) ?_
                    refine lv_dup2_11 hx hb dX10_losing_174 rfl rfl ?_
                    refine ti_iald (lo := (-2147483648)) (hi := 2147483647) hx hb (aT0 hK) hT hv91 rfl (iv_c (x := (10 : Int32)) (k := 10) (by decide)) (by decide) (one_j 10 rfl rfl (by decide) (by decide)) dX10_losing_175 (fun v175 hv175 hm175 => ?_)
                    refine lv_iload_n hx hb dX10_losing_176 rfl (lv_at hl 3 rfl) ?_
                    refine lv_iload hx hb dX10_losing_177 (lv_at hl 5 rfl) ?_
                    refine lv_iload hx hb dX10_losing_179 (lv_at hl 4 rfl) ?_
                    refine lv_imul hx hb dX10_losing_181 ?_
                    refine lv_topi (fun v181 e181 => ?_)
                    have hv181 : iv v181 (-2147483648) 2147483647 := iv_top _
                    refine lv_isub hx hb dX10_losing_182 ?_
                    refine lv_topi (fun v182 e182 => ?_)
                    have hv182 : iv v182 (-2147483648) 2147483647 := iv_top _
                    refine lv_iadd hx hb dX10_losing_183 ?_
                    refine lv_topi (fun v183 e183 => ?_)
                    have hv183 : iv v183 (-2147483648) 2147483647 := iv_top _
                    refine ti_iast hx hb (aT0 hK) hT hS hv91 rfl rfl (iv_c (x := (10 : Int32)) (k := 10) (by decide)) (by decide) (one_s 10 rfl rfl (by decide) (by decide)) hv183 (fun _ _ => trivial) dX10_losing_184 (fun H locs hT hS oq184 he184 hk184 => ?_)
                    refine lv_iload_n hx hb dX10_losing_185 rfl (lv_at hl 3 rfl) ?_
                    exact ret _ _ _ _ _ dX10_losing_186 (hT) hS
                · skip
                  have f124 := i_nle c124
                  have hj118_L6_124l : iv j118_L6 0 7 := iv_ltl hj118_L6 hv121 (Int32.not_le.mp c124) (by decide)
                  have hv121_124r : iv v121 1 8 := iv_ltr hj118_L6_124l hv121 (Int32.not_le.mp c124) (by decide)
                  refine lv_iload_n hx hb dX10_losing_127 rfl (lv_at hl 2 rfl) ?_
                  refine lv_iload hx hb dX10_losing_128 (lv_at hl 6 rfl) ?_
                  refine lv_ishr hx hb dX10_losing_130 ?_
                  refine lv_topi (fun v130 e130 => ?_)
                  have hv130 : iv v130 (-2147483648) 2147483647 := iv_top _
                  refine lv_iconst (v := 1) hx hb dX10_losing_131 (by decide) ?_
                  refine lv_iand hx hb dX10_losing_132 ?_
                  refine lv_topi (fun v132 e132 => ?_)
                  have hv132 : iv v132 0 1 := by rw [e132]; exact iv_and (iv_w (iv_c (x := (1 : Int32)) (k := 1) (by decide)) (by decide))
                  have J152 : ∀  (H : Heap) (locs : List Loc) (ls : Array Slot), TI D vwCl (tysOf c0) (RTg ν) Y H → va_S (pW Y [29, 30]) s.heap H locs → lv_has ls 7 [(0, .ref a0), (1, .int v1), (2, .int v6), (3, .int v21), (4, .int v87), (5, .int j113_S0), (6, .int j118_L6)] → W p l e R s m ([.ref a0] : List Value).toArray below meth c H locs 0 0 Q (F0 m 152 ls []) := by
                    intro  H locs ls  hT hS hl
                    obtain ⟨v152, e152⟩ : ∃ y : Int32, y = j118_L6 + 1 := ⟨_, rfl⟩
                    have hv152 : iv v152 1 8 := by rw [e152]; exact iv_w (iv_add hj118_L6_124l (iv_c (x := (1 : Int32)) (k := 1) (by decide)) (by decide)) (by decide)
                    have s152 : v152.toInt = j118_L6.toInt + 1 := by rw [e152, iv_addE hj118_L6_124l (iv_c (x := (1 : Int32)) (k := 1) (by decide)) (by decide)]; rfl
                    refine lv_iinc (v := v152) (lv' := [(6, .int v152), (0, .ref a0), (1, .int v1), (2, .int v6), (3, .int v21), (4, .int v87), (5, .int j113_S0)]) hx hb dX10_losing_152 hl (k := 6) rfl (by rw [e152]; rfl) (by decide) rfl (fun ls hl => ?_)
                    refine lv_goto (tgt := 118) hx hb dX10_losing_155 (by decide) ?_
                    exact ih118 v152 _ _ _ (ms_up hms118 (by have := s152; omega) (iv_w (c := 1) (d := 8) hv152 (by decide)).2) (iv_w hv152 (by decide)) hT hS (lv_sub hl [1, 2, 3, 4, 5, 6, 0] rfl)
                  refine lv_if_ne (tgt := 152) hx hb dX10_losing_133 (by decide) (fun c133 => ?_) (fun c133 => ?_)
                  · skip
                    have f133 := i_ne c133
                    have hv132_133l : iv v132 1 1 := iv_nel hv132 (iv_c (x := (0 : Int32)) (k := 0) (by decide)) c133 (by decide)
                    exact J152  _ _ _   hT hS (lv_sub hl [0, 1, 2, 3, 4, 5, 6] rfl)
                  · skip
                    have f133 := i_eq c133
                    have hv132_133l : iv v132 0 0 := iv_eql hv132 (iv_c (x := (0 : Int32)) (k := 0) (by decide)) c133 (by decide)
                    refine lv_aload_n hx hb dX10_losing_136 rfl (lv_at hl 0 rfl) ?_
                    refine lv_iload hx hb dX10_losing_137 (lv_at hl 6 rfl) ?_
                    refine lv_aload_n hx hb dX10_losing_139 rfl (lv_at hl 0 rfl) ?_
                    refine lv_iload hx hb dX10_losing_140 (lv_at hl 6 rfl) ?_
                    refine lv_iconst (v := 0) hx hb dX10_losing_142 (by decide) ?_
                    refine ti_calli (va_runV (As := [.int j118_L6, .int (0 : Int32)]) (rest := [.int j118_L6, .ref a0]) ⟨hx, hb, hml, hown, hts⟩ (t_X10_of l hT ha0 (iv_w hj118_L6_124l (by decide)) (iv_w (iv_c (x := (0 : Int32)) (k := 0) (by decide)) (by decide)) hU) (cwV 2 hts (good_V kw_490 kw_491 kw_492 kw_5 kw_493) rfl rfl rfl (by decide +kernel) ⟨by rw [hR]; decide, by rw [hR]; decide⟩) (ti_preV hK hT ha0 rfl rfl) rfl rfl hl.1 rfl (lv_room (Nat.le_of_ble_eq_true rfl)) dX10_losing_143 ⟨Nat.zero_le _, Nat.zero_le _⟩) hS (pW_sub rfl) (fun v143 H1 locs hB hS _ hk143 => ?_)
                    obtain ⟨hH, hp143⟩ := hB
                    rw [hH] at hS ⊢
                    have hf143 : iv v143 (-2147483648) 100000 := by have b0a := ((iv_top v143)).1; have b0b := ((iv_top v143)).2; exact ⟨by omega, by omega⟩
                    refine lv_iload hx hb dX10_losing_146 (lv_at hl 5 rfl) ?_
                    refine lv_iadd hx hb dX10_losing_148 ?_
                    refine lv_topi (fun v148 e148 => ?_)
                    have hv148 : iv v148 (-2147483648) 2147483647 := iv_top _
                    refine ti_callv (va_runV (As := [.int j118_L6, .int v148]) (rest := []) ⟨hx, hb, hml, hown, hts⟩ (t_X10_has l hT ha0 (iv_w hj118_L6_124l (by decide)) (iv_w hv148 (by decide)) hU) (cwV 2 hts (good_V kw_507 kw_508 kw_509 kw_5 kw_510) rfl rfl rfl (by decide +kernel) ⟨by rw [hR]; decide, by rw [hR]; decide⟩) (ti_preV hK hT ha0 rfl rfl) rfl rfl hl.1 rfl (lv_room (Nat.le_of_ble_eq_true rfl)) dX10_losing_149 ⟨Nat.zero_le _, Nat.zero_le _⟩) hS (pW_sub rfl) (fun H locs hB hS _ hk149 => ?_)
                    obtain ⟨hT, hp149⟩ := hB
                    exact J152  _ _ _   hT hS (lv_sub hl [0, 1, 2, 3, 4, 5, 6] rfl)
            refine lv_istore (lv' := [(6, .int (0 : Int32)), (5, .int j113_S0), (0, .ref a0), (1, .int v1), (2, .int v6), (3, .int v21), (4, .int v87)]) hx hb dX10_losing_116 hl (by decide) rfl (fun ls hl => ?_)
            exact J118 _ (0 : Int32) _ _ _ (Nat.lt_succ_self _) (iv_w (iv_c (x := (0 : Int32)) (k := 0) (by decide)) (by decide)) hT hS (lv_sub hl [2, 3, 4, 5, 6, 1, 0] rfl)
          have J112 : ∀  (H : Heap) (locs : List Loc) (ls : Array Slot), TI D vwCl (tysOf c0) (RTg ν) Y H → va_S (pW Y [29, 30]) s.heap H locs → lv_has ls 7 [(0, .ref a0), (1, .int v1), (2, .int v6), (3, .int v21), (4, .int v87)] → W p l e R s m ([.ref a0] : List Value).toArray below meth c H locs 0 0 Q (F0 m 112 ls []) := by
            intro  H locs ls  hT hS hl
            refine lv_iconst (v := 0) hx hb dX10_losing_112 (by decide) ?_
            exact J113 (0 : Int32) _ _ _  (iv_w (iv_c (x := (0 : Int32)) (k := 0) (by decide)) (by decide)) hT hS (lv_sub hl [0, 1, 2, 3, 4] rfl)
          refine lv_icmp_ne (tgt := 112) hx hb dX10_losing_97 (by decide) (fun c97 => ?_) (fun c97 => ?_)
          · skip
            have kl1 : (1 : Int32).toInt = 1 := by decide
            have f97 := i_ne c97
            exact J112  _ _ _   hT hS (lv_sub hl [1, 2, 3, 4, 0] rfl)
          · skip
            have kl1 : (1 : Int32).toInt = 1 := by decide
            have f97 := i_eq c97
            have hv95_97l : iv v95 1 1 := iv_eql hv95 (iv_c (x := (1 : Int32)) (k := 1) (by decide)) c97 (by decide)
            refine lv_iload hx hb dX10_losing_100 (lv_at hl 0 rfl) ?_
            refine lv_if_le (tgt := 112) hx hb dX10_losing_102 (by decide) (fun c102 => ?_) (fun c102 => ?_)
            · skip
              have f102 := i_le c102
              have hv87_102l : iv v87 (-2147483648) 0 := iv_lel hv87 (iv_c (x := (0 : Int32)) (k := 0) (by decide)) c102 (by decide)
              exact J112  _ _ _   hT hS (lv_sub hl [1, 2, 3, 4, 0] rfl)
            · skip
              have f102 := i_nle c102
              have hv87_102r : iv v87 1 2147483647 := iv_ltr (iv_c (x := (0 : Int32)) (k := 0) (by decide)) hv87 (Int32.not_le.mp c102) (by decide)
              refine lv_iload_n hx hb dX10_losing_105 rfl (lv_at hl 4 rfl) ?_
              refine lv_iload hx hb dX10_losing_106 (lv_at hl 0 rfl) ?_
              refine lv_idiv hx hb dX10_losing_108 (iv_ne0 hv87_102r (by decide)) ?_
              refine lv_topi (fun v108 e108 => ?_)
              have hv108 : iv v108 (-2147483648) 2147483647 := by rw [e108]; exact iv_div hv21 hv87_102r (by decide)
              refine lv_goto (tgt := 113) hx hb dX10_losing_109 (by decide) ?_
              exact J113 v108 _ _ _  (iv_w hv108 (by decide)) hT hS (lv_sub hl [1, 2, 3, 4, 0] rfl)
        · skip
          have f32 := i_nle c32
          have hj26_L4_32l : iv j26_L4 0 7 := iv_ltl hj26_L4 hv29 (Int32.not_le.mp c32) (by decide)
          have hv29_32r : iv v29 1 8 := iv_ltr hj26_L4_32l hv29 (Int32.not_le.mp c32) (by decide)
          refine lv_iload_n hx hb dX10_losing_35 rfl (lv_at hl 2 rfl) ?_
          refine lv_iload hx hb dX10_losing_36 (lv_at hl 4 rfl) ?_
          refine lv_ishr hx hb dX10_losing_38 ?_
          refine lv_topi (fun v38 e38 => ?_)
          have hv38 : iv v38 (-2147483648) 2147483647 := iv_top _
          refine lv_iconst (v := 1) hx hb dX10_losing_39 (by decide) ?_
          refine lv_iand hx hb dX10_losing_40 ?_
          refine lv_topi (fun v40 e40 => ?_)
          have hv40 : iv v40 0 1 := by rw [e40]; exact iv_and (iv_w (iv_c (x := (1 : Int32)) (k := 1) (by decide)) (by decide))
          have J73 : ∀  (H : Heap) (locs : List Loc) (ls : Array Slot), TI D vwCl (tysOf c0) (RTg ν) Y H → va_S (pW Y [29, 30]) s.heap H locs → lv_has ls 7 [(0, .ref a0), (1, .int v1), (2, .int v6), (3, .int v21), (4, .int j26_L4)] → W p l e R s m ([.ref a0] : List Value).toArray below meth c H locs 0 0 Q (F0 m 73 ls []) := by
            intro  H locs ls  hT hS hl
            obtain ⟨v73, e73⟩ : ∃ y : Int32, y = j26_L4 + 1 := ⟨_, rfl⟩
            have hv73 : iv v73 1 8 := by rw [e73]; exact iv_w (iv_add hj26_L4_32l (iv_c (x := (1 : Int32)) (k := 1) (by decide)) (by decide)) (by decide)
            have s73 : v73.toInt = j26_L4.toInt + 1 := by rw [e73, iv_addE hj26_L4_32l (iv_c (x := (1 : Int32)) (k := 1) (by decide)) (by decide)]; rfl
            refine lv_iinc (v := v73) (lv' := [(4, .int v73), (0, .ref a0), (1, .int v1), (2, .int v6), (3, .int v21)]) hx hb dX10_losing_73 hl (k := 4) rfl (by rw [e73]; rfl) (by decide) rfl (fun ls hl => ?_)
            refine lv_goto (tgt := 26) hx hb dX10_losing_76 (by decide) ?_
            exact ih26 v73 _ _ _ (ms_up hms26 (by have := s73; omega) (iv_w (c := 1) (d := 8) hv73 (by decide)).2) (iv_w hv73 (by decide)) hT hS (lv_sub hl [1, 2, 3, 4, 0] rfl)
          refine lv_if_ne (tgt := 47) hx hb dX10_losing_41 (by decide) (fun c41 => ?_) (fun c41 => ?_)
          · skip
            have f41 := i_ne c41
            have hv40_41l : iv v40 1 1 := iv_nel hv40 (iv_c (x := (0 : Int32)) (k := 0) (by decide)) c41 (by decide)
            refine lv_aload_n hx hb dX10_losing_47 rfl (lv_at hl 0 rfl) ?_
            refine lv_iload hx hb dX10_losing_48 (lv_at hl 4 rfl) ?_
            refine lv_aload_n hx hb dX10_losing_50 rfl (lv_at hl 0 rfl) ?_
            refine lv_iload hx hb dX10_losing_51 (lv_at hl 4 rfl) ?_
            refine lv_iconst (v := 0) hx hb dX10_losing_53 (by decide) ?_
            refine ti_calli (va_runV (As := [.int j26_L4, .int (0 : Int32)]) (rest := [.int j26_L4, .ref a0]) ⟨hx, hb, hml, hown, hts⟩ (t_X10_of l hT ha0 (iv_w hj26_L4_32l (by decide)) (iv_w (iv_c (x := (0 : Int32)) (k := 0) (by decide)) (by decide)) hU) (cwV 2 hts (good_V kw_490 kw_491 kw_492 kw_5 kw_493) rfl rfl rfl (by decide +kernel) ⟨by rw [hR]; decide, by rw [hR]; decide⟩) (ti_preV hK hT ha0 rfl rfl) rfl rfl hl.1 rfl (lv_room (Nat.le_of_ble_eq_true rfl)) dX10_losing_54 ⟨Nat.zero_le _, Nat.zero_le _⟩) hS (pW_sub rfl) (fun v54 H1 locs hB hS _ hk54 => ?_)
            obtain ⟨hH, hp54⟩ := hB
            rw [hH] at hS ⊢
            have hf54 : iv v54 (-2147483648) 100000 := by have b0a := ((iv_top v54)).1; have b0b := ((iv_top v54)).2; exact ⟨by omega, by omega⟩
            refine lv_iload_n hx hb dX10_losing_57 rfl (lv_at hl 1 rfl) ?_
            refine lv_isub hx hb dX10_losing_58 ?_
            refine lv_topi (fun v58 e58 => ?_)
            have hv58 : iv v58 (-2147483648) 2147483647 := iv_top _
            refine ti_callv (va_runV (As := [.int j26_L4, .int v58]) (rest := []) ⟨hx, hb, hml, hown, hts⟩ (t_X10_has l hT ha0 (iv_w hj26_L4_32l (by decide)) (iv_w hv58 (by decide)) hU) (cwV 2 hts (good_V kw_507 kw_508 kw_509 kw_5 kw_510) rfl rfl rfl (by decide +kernel) ⟨by rw [hR]; decide, by rw [hR]; decide⟩) (ti_preV hK hT ha0 rfl rfl) rfl rfl hl.1 rfl (lv_room (Nat.le_of_ble_eq_true rfl)) dX10_losing_59 ⟨Nat.zero_le _, Nat.zero_le _⟩) hS (pW_sub rfl) (fun H locs hB hS _ hk59 => ?_)
            obtain ⟨hT, hp59⟩ := hB
            refine lv_aload_n hx hb dX10_losing_62 rfl (lv_at hl 0 rfl) ?_
            refine ti_getr hx hb hts inlX10 hown hK hT ha0 rfl rfl rfl 30 (by decide) (hts _ kw_147) (fun _ h9 => h9) rfl dX10_losing_63 (fun v63 hv63 hm63 => ?_)
            refine lv_iload hx hb dX10_losing_66 (lv_at hl 4 rfl) ?_
            refine lv_dup2_11 hx hb dX10_losing_68 rfl rfl ?_
            refine ti_iald (lo := (-2147483648)) (hi := 2147483647) hx hb (aT0 hK) hT hv63 rfl hj26_L4_32l (by decide) (fun _ _ _ => ⟨_, _, rfl, by decide, by decide⟩) dX10_losing_69 (fun v69 hv69 hm69 => ?_)
            refine lv_iload_n hx hb dX10_losing_70 rfl (lv_at hl 1 rfl) ?_
            refine lv_iadd hx hb dX10_losing_71 ?_
            refine lv_topi (fun v71 e71 => ?_)
            have hv71 : iv v71 (-2147483648) 2147483647 := iv_top _
            refine ti_iast hx hb (aT0 hK) hT hS hv63 rfl rfl hj26_L4_32l (by decide) (fun _ _ _ => ⟨_, _, rfl, by decide, by decide⟩) hv71 (fun _ _ => trivial) dX10_losing_72 (fun H locs hT hS oq72 he72 hk72 => ?_)
            exact J73  _ _ _   hT hS (lv_sub hl [0, 1, 2, 3, 4] rfl)
          · skip
            have f41 := i_eq c41
            have hv40_41l : iv v40 0 0 := iv_eql hv40 (iv_c (x := (0 : Int32)) (k := 0) (by decide)) c41 (by decide)
            refine lv_goto (tgt := 73) hx hb dX10_losing_44 (by decide) ?_
            exact J73  _ _ _   hT hS (lv_sub hl [0, 1, 2, 3, 4] rfl)
    refine lv_istore (lv' := [(4, .int (0 : Int32)), (3, .int v21), (2, .int v6), (1, .int v1), (0, .ref a0)]) hx hb dX10_losing_24 hl (by decide) rfl (fun ls hl => ?_)
    exact J26 _ (0 : Int32) _ _ _ (Nat.lt_succ_self _) (iv_w (iv_c (x := (0 : Int32)) (k := 0) (by decide)) (by decide)) hT hS (lv_sub hl [4, 3, 2, 1, 0] rfl)
  · skip
    have kl0 : (0 : Int32).toInt = 0 := by decide
    have f11 := i_eq c11
    have hv1_11l : iv v1 0 0 := iv_eql hv1 (iv_c (x := (0 : Int32)) (k := 0) (by decide)) c11 (by decide)
    refine lv_iconst (v := 0) hx hb dX10_losing_14 (by decide) ?_
    exact ret _ _ _ _ _ dX10_losing_15 (hT) hS
set_option maxHeartbeats 4000000 in
set_option maxRecDepth 100000 in
theorem t_X10_lifts (l : Launch) {D : va_G} {c0 : Nat → ClassId} {Y : Nat → Option Nat} {ν : Nat → Nat} {H : Heap} (hT : TI D vwCl (tysOf c0) (RTg ν) Y H) {a0 : Nat} (ha0 : Y a0 = some 10) (hU : uq Y) : Met l yX10_lifts (wz yX10_lifts cX10_lifts 6 none) { frames := 2, cells := 0, slots := 0, locals := 82 } (TP D vwCl (tysOf c0) H [.ref a0]) (TQv (fun H' => TI D vwCl (tysOf c0) (RTg ν) Y H') Y [30]) 0 0 (pW Y [30]) := by
  refine Met.ofW (cc := cX10_lifts) (maxL := 6) (ret := none) (by decide) rfl ?_
  intro p e s m args below meth c s₁ B hml hv
  obtain ⟨rfl, rfl, hK⟩ := hv
  have hx := B.exec
  have hb := B.bytes
  have hr := B.returns
  have hts : ∀ w ∈ wq, w.before _ s = true := fun w h => atoms_spec (ws := wz yX10_lifts cX10_lifts 6 none) B.pre w (List.mem_cons_of_mem _ h)
  have hown : s.vm.findClass RX10 = some m.cls := findClass_of_methodNamed B.named
  have hlocks := B.notSynchronized
  obtain ⟨R, hR⟩ : ∃ R : Room, R = ({ frames := 2, cells := 0, slots := 0, locals := 82 } : Room) := ⟨_, rfl⟩
  rw [show (headSpec (wz yX10_lifts cX10_lifts 6 none) { frames := 2, cells := 0, slots := 0, locals := 82 }).room = R from hR.symm]
  refine ti_mv hx hb hr hlocks (fun Q ret => ?_)
  have hl := lv_entry [.ref a0] (n := 6) (Nat.le_of_ble_eq_true rfl)
  rw [lg_entry_eq]
  generalize (lg_sl [.ref a0] ++ List.replicate (6 - (lg_sl [.ref a0]).length) Slot.unset).toArray = ls at hl ⊢
  have hl : lv_has ls 6 [(0, .ref a0)] := hl
  refine ti_gen (P := fun H => TI D vwCl (tysOf c0) (RTg ν) Y H) (Y := Y) (ws := [30]) hT (fun H locs hT hS => ?_)
  refine lv_sipush (v := 1000) hx hb dX10_lifts_0 (by decide) ?_
  refine lv_istore_n (lv' := [(1, .int (1000 : Int32)), (0, .ref a0)]) hx hb dX10_lifts_3 rfl hl (by decide) rfl (fun ls hl => ?_)
  refine lv_iconst (v := (-1)) hx hb dX10_lifts_4 (by decide) ?_
  refine lv_istore_n (lv' := [(2, .int (-1 : Int32)), (1, .int (1000 : Int32)), (0, .ref a0)]) hx hb dX10_lifts_5 rfl hl (by decide) rfl (fun ls hl => ?_)
  refine lv_iconst (v := 0) hx hb dX10_lifts_6 (by decide) ?_
  refine lv_istore_n (lv' := [(3, .int (0 : Int32)), (2, .int (-1 : Int32)), (1, .int (1000 : Int32)), (0, .ref a0)]) hx hb dX10_lifts_7 rfl hl (by decide) rfl (fun ls hl => ?_)
  refine lv_iconst (v := 0) hx hb dX10_lifts_8 (by decide) ?_
  have J11 : ∀ (n : Nat) (j11_L1 : Int32) (j11_L2 : Int32) (j11_L3 : Int32) (j11_L4 : Int32) (H : Heap) (locs : List Loc) (ls : Array Slot), (8 - j11_L4.toInt).toNat < n → iv j11_L1 (-2147483648) 2147483647 → iv j11_L2 (-1) 7 → iv j11_L3 (-2147483648) 2147483647 → iv j11_L4 0 8 → (1 ≤ j11_L3.toInt → 0 ≤ j11_L2.toInt ∧ j11_L2.toInt ≤ 7) → TI D vwCl (tysOf c0) (RTg ν) Y H → va_S (pW Y [30]) s.heap H locs → lv_has ls 6 [(0, .ref a0), (1, .int j11_L1), (2, .int j11_L2), (3, .int j11_L3), (4, .int j11_L4)] → W p l e R s m ([.ref a0] : List Value).toArray below meth c H locs 0 0 Q (F0 m 11 ls []) := by
    intro n
    induction n with
    | zero => intro j11_L1 j11_L2 j11_L3 j11_L4 H locs ls hms; exact absurd hms (Nat.not_lt_zero _)
    | succ n ih11 =>
      intro j11_L1 j11_L2 j11_L3 j11_L4 H locs ls hms11 hj11_L1 hj11_L2 hj11_L3 hj11_L4 hI11_0 hT hS hl
      refine lv_iload hx hb dX10_lifts_11 (lv_at hl 4 rfl) ?_
      refine lv_aload_n hx hb dX10_lifts_13 rfl (lv_at hl 0 rfl) ?_
      refine ti_calli (va_runV (As := []) (rest := [.int j11_L4]) ⟨hx, hb, hml, hown, hts⟩ (t_X10_people l hT ha0 hU) (cwV 0 hts (good_V kw_605 kw_606 kw_607 kw_5 kw_608) rfl rfl rfl (by decide +kernel) ⟨by rw [hR]; decide, by rw [hR]; decide⟩) (ti_preV hK hT ha0 rfl rfl) rfl rfl hl.1 rfl (lv_room (Nat.le_of_ble_eq_true rfl)) dX10_lifts_14 ⟨Nat.zero_le _, Nat.zero_le _⟩) hS (pW_sub rfl) (fun v14 H1 locs hB hS _ hk14 => ?_)
      obtain ⟨hH, hv14, hp14⟩ := hB
      rw [hH] at hS ⊢
      refine lv_icmp_ge (tgt := 67) hx hb dX10_lifts_17 (by decide) (fun c17 => ?_) (fun c17 => ?_)
      · skip
        have f17 := i_le c17
        refine lv_sipush (v := 1000) hx hb dX10_lifts_67 (by decide) ?_
        refine lv_istore (lv' := [(4, .int (1000 : Int32)), (0, .ref a0), (1, .int j11_L1), (2, .int j11_L2), (3, .int j11_L3)]) hx hb dX10_lifts_70 hl (by decide) rfl (fun ls hl => ?_)
        refine lv_iconst (v := 0) hx hb dX10_lifts_72 (by decide) ?_
        have J75 : ∀ (n : Nat) (j75_L4 : Int32) (j75_L5 : Int32) (H : Heap) (locs : List Loc) (ls : Array Slot), (8 - j75_L5.toInt).toNat < n → iv j75_L4 (-2147483648) 1000 → iv j75_L5 0 8 → (1 ≤ j11_L3.toInt → 0 ≤ j11_L2.toInt ∧ j11_L2.toInt ≤ 7) → TI D vwCl (tysOf c0) (RTg ν) Y H → va_S (pW Y [30]) s.heap H locs → lv_has ls 6 [(0, .ref a0), (1, .int j11_L1), (2, .int j11_L2), (3, .int j11_L3), (4, .int j75_L4), (5, .int j75_L5)] → W p l e R s m ([.ref a0] : List Value).toArray below meth c H locs 0 0 Q (F0 m 75 ls []) := by
          intro n
          induction n with
          | zero => intro j75_L4 j75_L5 H locs ls hms; exact absurd hms (Nat.not_lt_zero _)
          | succ n ih75 =>
            intro j75_L4 j75_L5 H locs ls hms75 hj75_L4 hj75_L5 hI75_0 hT hS hl
            refine lv_iload hx hb dX10_lifts_75 (lv_at hl 5 rfl) ?_
            refine lv_aload_n hx hb dX10_lifts_77 rfl (lv_at hl 0 rfl) ?_
            refine ti_calli (va_runV (As := []) (rest := [.int j75_L5]) ⟨hx, hb, hml, hown, hts⟩ (t_X10_people l hT ha0 hU) (cwV 0 hts (good_V kw_605 kw_606 kw_607 kw_5 kw_608) rfl rfl rfl (by decide +kernel) ⟨by rw [hR]; decide, by rw [hR]; decide⟩) (ti_preV hK hT ha0 rfl rfl) rfl rfl hl.1 rfl (lv_room (Nat.le_of_ble_eq_true rfl)) dX10_lifts_78 ⟨Nat.zero_le _, Nat.zero_le _⟩) hS (pW_sub rfl) (fun v78 H1 locs hB hS _ hk78 => ?_)
            obtain ⟨hH, hv78, hp78⟩ := hB
            rw [hH] at hS ⊢
            refine lv_icmp_ge (tgt := 118) hx hb dX10_lifts_81 (by decide) (fun c81 => ?_) (fun c81 => ?_)
            · skip
              have f81 := i_le c81
              refine lv_iload_n hx hb dX10_lifts_118 rfl (lv_at hl 3 rfl) ?_
              refine lv_iconst (v := 1) hx hb dX10_lifts_119 (by decide) ?_
              refine lv_icmp_ne (tgt := 131) hx hb dX10_lifts_120 (by decide) (fun c120 => ?_) (fun c120 => ?_)
              · skip
                have kl1 : (1 : Int32).toInt = 1 := by decide
                have f120 := i_ne c120
                exact ret _ _ _ _ dX10_lifts_131 (hT) hS
              · skip
                have kl1 : (1 : Int32).toInt = 1 := by decide
                have f120 := i_eq c120
                have hj11_L3_120l : iv j11_L3 1 1 := iv_eql hj11_L3 (iv_c (x := (1 : Int32)) (k := 1) (by decide)) c120 (by decide)
                have hq120_36 : iv j11_L2 0 7 := by have := hI11_0; have b0a := (hj11_L3_120l).1; have b0b := (hj11_L3_120l).2; have b1a := (hj11_L2).1; have b1b := (hj11_L2).2; exact ⟨by omega, by omega⟩
                refine lv_iload hx hb dX10_lifts_123 (lv_at hl 4 rfl) ?_
                refine lv_sipush (v := 1000) hx hb dX10_lifts_125 (by decide) ?_
                refine lv_icmp_ne (tgt := 132) hx hb dX10_lifts_128 (by decide) (fun c128 => ?_) (fun c128 => ?_)
                · skip
                  have kl1000 : (1000 : Int32).toInt = 1000 := by decide
                  have f128 := i_ne c128
                  have hj75_L4_128l : iv j75_L4 (-2147483648) 999 := iv_nel hj75_L4 (iv_c (x := (1000 : Int32)) (k := 1000) (by decide)) c128 (by decide)
                  refine lv_iload hx hb dX10_lifts_132 (lv_at hl 4 rfl) ?_
                  refine lv_iload_n hx hb dX10_lifts_134 rfl (lv_at hl 1 rfl) ?_
                  refine lv_isub hx hb dX10_lifts_135 ?_
                  refine lv_topi (fun v135 e135 => ?_)
                  have hv135 : iv v135 (-2147483648) 2147483647 := iv_top _
                  refine lv_aload_n hx hb dX10_lifts_136 rfl (lv_at hl 0 rfl) ?_
                  refine ti_getr hx hb hts inlX10 hown hK hT ha0 rfl rfl rfl 1 (by decide) (hts _ kw_130) (fun _ h9 => h9) rfl dX10_lifts_137 (fun v137 hv137 hm137 => ?_)
                  refine lv_bipush (v := 10) hx hb dX10_lifts_140 (by decide) ?_
                  refine ti_iald (lo := (-2147483648)) (hi := 2147483647) hx hb (aT0 hK) hT hv137 rfl (iv_c (x := (10 : Int32)) (k := 10) (by decide)) (by decide) (one_j 10 rfl rfl (by decide) (by decide)) dX10_lifts_142 (fun v142 hv142 hm142 => ?_)
                  refine va_mmin hx hb (by rw [hml]; exact hl.1.symm) hown (hts _ kw_394) (hts _ kw_211) (hts _ kw_212) (hts _ kw_213) (by rw [hR]; decide) (by rw [hR]; exact Nat.le_of_ble_eq_true rfl) (Nat.zero_le _) (Nat.zero_le _) dX10_lifts_143 ?_
                  refine lv_topi (fun v143 e143 => ?_)
                  have hv143 : iv v143 (-2147483648) 2147483647 := by rw [e143]; exact iv_min hv135 hv142 (by decide)
                  refine lv_istore (lv' := [(5, .int v143), (0, .ref a0), (1, .int j11_L1), (2, .int j11_L2), (3, .int j11_L3), (4, .int j75_L4)]) hx hb dX10_lifts_146 hl (by decide) rfl (fun ls hl => ?_)
                  refine lv_aload_n hx hb dX10_lifts_148 rfl (lv_at hl 1 rfl) ?_
                  refine ti_getE (ci := 10) (v := .ref v137) hx hb hts inlX10 hown hK hm137 rfl (by decide) (hts _ kw_130) (fun _ h9 => h9) dX10_lifts_149 ?_
                  refine lv_bipush (v := 10) hx hb dX10_lifts_152 (by decide) ?_
                  refine lv_dup2_11 hx hb dX10_lifts_154 rfl rfl ?_
                  refine ti_ialdE (v := .int v142) hx hb (aT0 hK) hT hv137 rfl (iv_c (x := (10 : Int32)) (k := 10) (by decide)) (by decide) (hm142) dX10_lifts_155 ?_
                  refine lv_iload hx hb dX10_lifts_156 (lv_at hl 0 rfl) ?_
                  refine lv_isub hx hb dX10_lifts_158 ?_
                  refine lv_topi (fun v158 e158 => ?_)
                  have hv158 : iv v158 (-2147483648) 2147483647 := iv_top _
                  refine ti_iast hx hb (aT0 hK) hT hS hv137 rfl rfl (iv_c (x := (10 : Int32)) (k := 10) (by decide)) (by decide) (one_s 10 rfl rfl (by decide) (by decide)) hv158 (fun _ _ => trivial) dX10_lifts_159 (fun H locs hT hS oq159 he159 hk159 => ?_)
                  refine lv_aload_n hx hb dX10_lifts_160 rfl (lv_at hl 1 rfl) ?_
                  refine lv_iload_n hx hb dX10_lifts_161 rfl (lv_at hl 3 rfl) ?_
                  refine lv_aload_n hx hb dX10_lifts_162 rfl (lv_at hl 1 rfl) ?_
                  refine lv_iload_n hx hb dX10_lifts_163 rfl (lv_at hl 3 rfl) ?_
                  refine lv_iconst (v := 0) hx hb dX10_lifts_164 (by decide) ?_
                  refine ti_calli (va_runV (As := [.int j11_L2, .int (0 : Int32)]) (rest := [.int j11_L2, .ref a0]) ⟨hx, hb, hml, hown, hts⟩ (t_X10_of l hT ha0 (iv_w hq120_36 (by decide)) (iv_w (iv_c (x := (0 : Int32)) (k := 0) (by decide)) (by decide)) hU) (cwV 2 hts (good_V kw_490 kw_491 kw_492 kw_5 kw_493) rfl rfl rfl (by decide +kernel) ⟨by rw [hR]; decide, by rw [hR]; decide⟩) (ti_preV hK hT ha0 rfl rfl) rfl rfl hl.1 rfl (lv_room (Nat.le_of_ble_eq_true rfl)) dX10_lifts_165 ⟨Nat.zero_le _, Nat.zero_le _⟩) hS (pW_sub rfl) (fun v165 H1 locs hB hS _ hk165 => ?_)
                  obtain ⟨hH, hp165⟩ := hB
                  rw [hH] at hS ⊢
                  have kl0 : (0 : Int32).toInt = 0 := by decide
                  have hf165 : iv v165 (-2147483648) 100000 := by have b0a := ((iv_top v165)).1; have b0b := ((iv_top v165)).2; exact ⟨by omega, by omega⟩
                  refine lv_iload hx hb dX10_lifts_168 (lv_at hl 0 rfl) ?_
                  refine lv_iadd hx hb dX10_lifts_170 ?_
                  refine lv_topi (fun v170 e170 => ?_)
                  have hv170 : iv v170 (-2147483648) 2147483647 := iv_top _
                  refine ti_callv (va_runV (As := [.int j11_L2, .int v170]) (rest := []) ⟨hx, hb, hml, hown, hts⟩ (t_X10_has l hT ha0 (iv_w hq120_36 (by decide)) (iv_w hv170 (by decide)) hU) (cwV 2 hts (good_V kw_507 kw_508 kw_509 kw_5 kw_510) rfl rfl rfl (by decide +kernel) ⟨by rw [hR]; decide, by rw [hR]; decide⟩) (ti_preV hK hT ha0 rfl rfl) rfl rfl hl.1 rfl (lv_room (Nat.le_of_ble_eq_true rfl)) dX10_lifts_171 ⟨Nat.zero_le _, Nat.zero_le _⟩) hS (pW_sub rfl) (fun H locs hB hS _ hk171 => ?_)
                  obtain ⟨hT, hp171⟩ := hB
                  exact ret _ _ _ _ dX10_lifts_174 (hT) hS
                · skip
                  have kl1000 : (1000 : Int32).toInt = 1000 := by decide
                  have f128 := i_eq c128
                  have hj75_L4_128l : iv j75_L4 1000 1000 := iv_eql hj75_L4 (iv_c (x := (1000 : Int32)) (k := 1000) (by decide)) c128 (by decide)
                  exact ret _ _ _ _ dX10_lifts_131 (hT) hS
            · skip
              have f81 := i_nle c81
              have hj75_L5_81l : iv j75_L5 0 7 := iv_ltl hj75_L5 hv78 (Int32.not_le.mp c81) (by decide)
              have hv78_81r : iv v78 1 8 := iv_ltr hj75_L5_81l hv78 (Int32.not_le.mp c81) (by decide)
              refine lv_aload_n hx hb dX10_lifts_84 rfl (lv_at hl 0 rfl) ?_
              refine lv_iload hx hb dX10_lifts_85 (lv_at hl 5 rfl) ?_
              refine ti_calli (va_runV (As := [.int j75_L5]) (rest := []) ⟨hx, hb, hml, hown, hts⟩ (t_X10_shown l hT ha0 (iv_w hj75_L5_81l (by decide)) hU) (cwV 1 hts (good_V kw_553 kw_554 kw_555 kw_5 kw_556) rfl rfl rfl (by decide +kernel) ⟨by rw [hR]; decide, by rw [hR]; decide⟩) (ti_preV hK hT ha0 rfl rfl) rfl rfl hl.1 rfl (lv_room (Nat.le_of_ble_eq_true rfl)) dX10_lifts_87 ⟨Nat.zero_le _, Nat.zero_le _⟩) hS (pW_sub rfl) (fun v87 H1 locs hB hS _ hk87 => ?_)
              have hH := hB
              rw [hH] at hS ⊢
              refine lv_iload_n hx hb dX10_lifts_90 rfl (lv_at hl 1 rfl) ?_
              have J110 : ∀ (j110_S0 : Int32) (H : Heap) (locs : List Loc) (ls : Array Slot), iv j110_S0 (-2147483648) 1000 → TI D vwCl (tysOf c0) (RTg ν) Y H → va_S (pW Y [30]) s.heap H locs → lv_has ls 6 [(0, .ref a0), (1, .int j11_L1), (2, .int j11_L2), (3, .int j11_L3), (4, .int j75_L4), (5, .int j75_L5)] → W p l e R s m ([.ref a0] : List Value).toArray below meth c H locs 0 0 Q (F0 m 110 ls [.int j110_S0]) := by
                intro j110_S0 H locs ls hj110_S0 hT hS hl
                refine lv_istore (lv' := [(4, .int j110_S0), (0, .ref a0), (1, .int j11_L1), (2, .int j11_L2), (3, .int j11_L3), (5, .int j75_L5)]) hx hb dX10_lifts_110 hl (by decide) rfl (fun ls hl => ?_)
                obtain ⟨v112, e112⟩ : ∃ y : Int32, y = j75_L5 + 1 := ⟨_, rfl⟩
                have hv112 : iv v112 1 8 := by rw [e112]; exact iv_w (iv_add hj75_L5_81l (iv_c (x := (1 : Int32)) (k := 1) (by decide)) (by decide)) (by decide)
                have s112 : v112.toInt = j75_L5.toInt + 1 := by rw [e112, iv_addE hj75_L5_81l (iv_c (x := (1 : Int32)) (k := 1) (by decide)) (by decide)]; rfl
                refine lv_iinc (v := v112) (lv' := [(5, .int v112), (4, .int j110_S0), (0, .ref a0), (1, .int j11_L1), (2, .int j11_L2), (3, .int j11_L3)]) hx hb dX10_lifts_112 hl (k := 5) rfl (by rw [e112]; rfl) (by decide) rfl (fun ls hl => ?_)
                refine lv_goto (tgt := 75) hx hb dX10_lifts_115 (by decide) ?_
                exact ih75 j110_S0 v112 _ _ _ (ms_up hms75 (by have := s112; omega) (iv_w (c := 1) (d := 8) hv112 (by decide)).2) (iv_w hj110_S0 (by decide)) (iv_w hv112 (by decide)) (fun h9 => by have b0a := (hj11_L3).1; have b0b := (hj11_L3).2; have b1a := (hj11_L2).1; have b1b := (hj11_L2).2; omega) hT hS (lv_sub hl [2, 3, 4, 5, 1, 0] rfl)
              refine lv_icmp_le (tgt := 108) hx hb dX10_lifts_91 (by decide) (fun c91 => ?_) (fun c91 => ?_)
              · skip
                have f91 := i_le c91
                refine lv_iload hx hb dX10_lifts_108 (lv_at hl 4 rfl) ?_
                exact J110 j75_L4 _ _ _  (iv_w hj75_L4 (by decide)) hT hS (lv_sub hl [0, 1, 2, 3, 4, 5] rfl)
              · skip
                have f91 := i_nle c91
                have hj11_L1_91l : iv j11_L1 (-2147483648) 2147483646 := iv_ltl hj11_L1 (iv_top v87) (Int32.not_le.mp c91) (by decide)
                have hv87_91r : iv v87 (-2147483647) 2147483647 := iv_ltr hj11_L1_91l (iv_top v87) (Int32.not_le.mp c91) (by decide)
                refine lv_iload hx hb dX10_lifts_94 (lv_at hl 4 rfl) ?_
                refine lv_aload_n hx hb dX10_lifts_96 rfl (lv_at hl 0 rfl) ?_
                refine lv_iload hx hb dX10_lifts_97 (lv_at hl 5 rfl) ?_
                refine ti_calli (va_runV (As := [.int j75_L5]) (rest := [.int j75_L4]) ⟨hx, hb, hml, hown, hts⟩ (t_X10_shown l hT ha0 (iv_w hj75_L5_81l (by decide)) hU) (cwV 1 hts (good_V kw_553 kw_554 kw_555 kw_5 kw_556) rfl rfl rfl (by decide +kernel) ⟨by rw [hR]; decide, by rw [hR]; decide⟩) (ti_preV hK hT ha0 rfl rfl) rfl rfl hl.1 rfl (lv_room (Nat.le_of_ble_eq_true rfl)) dX10_lifts_99 ⟨Nat.zero_le _, Nat.zero_le _⟩) hS (pW_sub rfl) (fun v99 H1 locs hB hS _ hk99 => ?_)
                have hH := hB
                rw [hH] at hS ⊢
                refine va_mmin hx hb (by rw [hml]; exact hl.1.symm) hown (hts _ kw_394) (hts _ kw_211) (hts _ kw_212) (hts _ kw_213) (by rw [hR]; decide) (by rw [hR]; exact Nat.le_of_ble_eq_true rfl) (Nat.zero_le _) (Nat.zero_le _) dX10_lifts_102 ?_
                refine lv_topi (fun v102 e102 => ?_)
                have hv102 : iv v102 (-2147483648) 1000 := by rw [e102]; exact iv_min hj75_L4 (iv_top v99) (by decide)
                refine lv_goto (tgt := 110) hx hb dX10_lifts_105 (by decide) ?_
                exact J110 v102 _ _ _  (iv_w hv102 (by decide)) hT hS (lv_sub hl [0, 1, 2, 3, 4, 5] rfl)
        refine lv_istore (lv' := [(5, .int (0 : Int32)), (4, .int (1000 : Int32)), (0, .ref a0), (1, .int j11_L1), (2, .int j11_L2), (3, .int j11_L3)]) hx hb dX10_lifts_73 hl (by decide) rfl (fun ls hl => ?_)
        exact J75 _ (1000 : Int32) (0 : Int32) _ _ _ (Nat.lt_succ_self _) (iv_w (iv_c (x := (1000 : Int32)) (k := 1000) (by decide)) (by decide)) (iv_w (iv_c (x := (0 : Int32)) (k := 0) (by decide)) (by decide)) (fun h9 => by have b0a := (hj11_L3).1; have b0b := (hj11_L3).2; have b1a := (hj11_L2).1; have b1b := (hj11_L2).2; omega) hT hS (lv_sub hl [2, 3, 4, 5, 1, 0] rfl)
      · skip
        have f17 := i_nle c17
        have hj11_L4_17l : iv j11_L4 0 7 := iv_ltl hj11_L4 hv14 (Int32.not_le.mp c17) (by decide)
        have hv14_17r : iv v14 1 8 := iv_ltr hj11_L4_17l hv14 (Int32.not_le.mp c17) (by decide)
        refine lv_aload_n hx hb dX10_lifts_20 rfl (lv_at hl 0 rfl) ?_
        refine lv_iload hx hb dX10_lifts_21 (lv_at hl 4 rfl) ?_
        refine ti_calli (va_runV (As := [.int j11_L4]) (rest := []) ⟨hx, hb, hml, hown, hts⟩ (t_X10_shown l hT ha0 (iv_w hj11_L4_17l (by decide)) hU) (cwV 1 hts (good_V kw_553 kw_554 kw_555 kw_5 kw_556) rfl rfl rfl (by decide +kernel) ⟨by rw [hR]; decide, by rw [hR]; decide⟩) (ti_preV hK hT ha0 rfl rfl) rfl rfl hl.1 rfl (lv_room (Nat.le_of_ble_eq_true rfl)) dX10_lifts_23 ⟨Nat.zero_le _, Nat.zero_le _⟩) hS (pW_sub rfl) (fun v23 H1 locs hB hS _ hk23 => ?_)
        have hH := hB
        rw [hH] at hS ⊢
        refine lv_iload_n hx hb dX10_lifts_26 rfl (lv_at hl 1 rfl) ?_
        have J61 : ∀ (j61_L1 : Int32) (j61_L2 : Int32) (j61_L3 : Int32) (H : Heap) (locs : List Loc) (ls : Array Slot), iv j61_L1 (-2147483648) 2147483647 → iv j61_L2 (-1) 7 → iv j61_L3 (-2147483648) 2147483647 → (1 ≤ j61_L3.toInt → 0 ≤ j61_L2.toInt ∧ j61_L2.toInt ≤ 7) → TI D vwCl (tysOf c0) (RTg ν) Y H → va_S (pW Y [30]) s.heap H locs → lv_has ls 6 [(0, .ref a0), (1, .int j61_L1), (2, .int j61_L2), (3, .int j61_L3), (4, .int j11_L4)] → W p l e R s m ([.ref a0] : List Value).toArray below meth c H locs 0 0 Q (F0 m 61 ls []) := by
          intro j61_L1 j61_L2 j61_L3 H locs ls hj61_L1 hj61_L2 hj61_L3 hI61_0 hT hS hl
          obtain ⟨v61, e61⟩ : ∃ y : Int32, y = j11_L4 + 1 := ⟨_, rfl⟩
          have hv61 : iv v61 1 8 := by rw [e61]; exact iv_w (iv_add hj11_L4_17l (iv_c (x := (1 : Int32)) (k := 1) (by decide)) (by decide)) (by decide)
          have s61 : v61.toInt = j11_L4.toInt + 1 := by rw [e61, iv_addE hj11_L4_17l (iv_c (x := (1 : Int32)) (k := 1) (by decide)) (by decide)]; rfl
          refine lv_iinc (v := v61) (lv' := [(4, .int v61), (0, .ref a0), (1, .int j61_L1), (2, .int j61_L2), (3, .int j61_L3)]) hx hb dX10_lifts_61 hl (k := 4) rfl (by rw [e61]; rfl) (by decide) rfl (fun ls hl => ?_)
          refine lv_goto (tgt := 11) hx hb dX10_lifts_64 (by decide) ?_
          exact ih11 j61_L1 j61_L2 j61_L3 v61 _ _ _ (ms_up hms11 (by have := s61; omega) (iv_w (c := 1) (d := 8) hv61 (by decide)).2) (iv_w hj61_L1 (by decide)) (iv_w hj61_L2 (by decide)) (iv_w hj61_L3 (by decide)) (iv_w hv61 (by decide)) (fun h9 => by have b0a := (hj61_L3).1; have b0b := (hj61_L3).2; have b1a := (hj61_L2).1; have b1b := (hj61_L2).2; omega) hT hS (lv_sub hl [1, 2, 3, 4, 0] rfl)
        refine lv_icmp_le (tgt := 33) hx hb dX10_lifts_27 (by decide) (fun c27 => ?_) (fun c27 => ?_)
        · skip
          have f27 := i_le c27
          refine lv_aload_n hx hb dX10_lifts_33 rfl (lv_at hl 0 rfl) ?_
          refine lv_iload hx hb dX10_lifts_34 (lv_at hl 4 rfl) ?_
          refine ti_calli (va_runV (As := [.int j11_L4]) (rest := []) ⟨hx, hb, hml, hown, hts⟩ (t_X10_shown l hT ha0 (iv_w hj11_L4_17l (by decide)) hU) (cwV 1 hts (good_V kw_553 kw_554 kw_555 kw_5 kw_556) rfl rfl rfl (by decide +kernel) ⟨by rw [hR]; decide, by rw [hR]; decide⟩) (ti_preV hK hT ha0 rfl rfl) rfl rfl hl.1 rfl (lv_room (Nat.le_of_ble_eq_true rfl)) dX10_lifts_36 ⟨Nat.zero_le _, Nat.zero_le _⟩) hS (pW_sub rfl) (fun v36 H1 locs hB hS _ hk36 => ?_)
          have hH := hB
          rw [hH] at hS ⊢
          refine lv_iload_n hx hb dX10_lifts_39 rfl (lv_at hl 1 rfl) ?_
          have J50 : ∀ (j50_S0 : Int32) (H : Heap) (locs : List Loc) (ls : Array Slot), iv j50_S0 (-2147483648) 2147483647 → TI D vwCl (tysOf c0) (RTg ν) Y H → va_S (pW Y [30]) s.heap H locs → lv_has ls 6 [(0, .ref a0), (1, .int j11_L1), (2, .int j11_L2), (3, .int j11_L3), (4, .int j11_L4)] → W p l e R s m ([.ref a0] : List Value).toArray below meth c H locs 0 0 Q (F0 m 50 ls [.int j50_S0]) := by
            intro j50_S0 H locs ls hj50_S0 hT hS hl
            refine lv_istore_n (lv' := [(3, .int j50_S0), (0, .ref a0), (1, .int j11_L1), (2, .int j11_L2), (4, .int j11_L4)]) hx hb dX10_lifts_50 rfl hl (by decide) rfl (fun ls hl => ?_)
            refine lv_aload_n hx hb dX10_lifts_51 rfl (lv_at hl 1 rfl) ?_
            refine lv_iload hx hb dX10_lifts_52 (lv_at hl 4 rfl) ?_
            refine ti_calli (va_runV (As := [.int j11_L4]) (rest := []) ⟨hx, hb, hml, hown, hts⟩ (t_X10_shown l hT ha0 (iv_w hj11_L4_17l (by decide)) hU) (cwV 1 hts (good_V kw_553 kw_554 kw_555 kw_5 kw_556) rfl rfl rfl (by decide +kernel) ⟨by rw [hR]; decide, by rw [hR]; decide⟩) (ti_preV hK hT ha0 rfl rfl) rfl rfl hl.1 rfl (lv_room (Nat.le_of_ble_eq_true rfl)) dX10_lifts_54 ⟨Nat.zero_le _, Nat.zero_le _⟩) hS (pW_sub rfl) (fun v54 H1 locs hB hS _ hk54 => ?_)
            have hH := hB
            rw [hH] at hS ⊢
            refine lv_istore_n (lv' := [(1, .int v54), (3, .int j50_S0), (0, .ref a0), (2, .int j11_L2), (4, .int j11_L4)]) hx hb dX10_lifts_57 rfl hl (by decide) rfl (fun ls hl => ?_)
            refine lv_iload hx hb dX10_lifts_58 (lv_at hl 4 rfl) ?_
            refine lv_istore_n (lv' := [(2, .int j11_L4), (1, .int v54), (3, .int j50_S0), (0, .ref a0), (4, .int j11_L4)]) hx hb dX10_lifts_60 rfl hl (by decide) rfl (fun ls hl => ?_)
            exact J61 v54 j11_L4 j50_S0 _ _ _  (iv_w (iv_top v54) (by decide)) (iv_w hj11_L4_17l (by decide)) (iv_w hj50_S0 (by decide)) (fun h9 => by have b0a := (hj50_S0).1; have b0b := (hj50_S0).2; have b1a := (hj11_L4_17l).1; have b1b := (hj11_L4_17l).2; omega) hT hS (lv_sub hl [3, 1, 0, 2, 4] rfl)
          refine lv_icmp_ge (tgt := 47) hx hb dX10_lifts_40 (by decide) (fun c40 => ?_) (fun c40 => ?_)
          · skip
            have f40 := i_le c40
            refine lv_iload_n hx hb dX10_lifts_47 rfl (lv_at hl 3 rfl) ?_
            refine lv_iconst (v := 1) hx hb dX10_lifts_48 (by decide) ?_
            refine lv_iadd hx hb dX10_lifts_49 ?_
            refine lv_topi (fun v49 e49 => ?_)
            have hv49 : iv v49 (-2147483648) 2147483647 := iv_top _
            exact J50 v49 _ _ _  (iv_w hv49 (by decide)) hT hS (lv_sub hl [0, 1, 2, 3, 4] rfl)
          · skip
            have f40 := i_nle c40
            have hv36_40l : iv v36 (-2147483648) 2147483646 := iv_ltl (iv_top v36) hj11_L1 (Int32.not_le.mp c40) (by decide)
            have hj11_L1_40r : iv j11_L1 (-2147483647) 2147483647 := iv_ltr hv36_40l hj11_L1 (Int32.not_le.mp c40) (by decide)
            refine lv_iconst (v := 1) hx hb dX10_lifts_43 (by decide) ?_
            refine lv_goto (tgt := 50) hx hb dX10_lifts_44 (by decide) ?_
            exact J50 (1 : Int32) _ _ _  (iv_w (iv_c (x := (1 : Int32)) (k := 1) (by decide)) (by decide)) hT hS (lv_sub hl [0, 1, 2, 3, 4] rfl)
        · skip
          have f27 := i_nle c27
          have hj11_L1_27l : iv j11_L1 (-2147483648) 2147483646 := iv_ltl hj11_L1 (iv_top v23) (Int32.not_le.mp c27) (by decide)
          have hv23_27r : iv v23 (-2147483647) 2147483647 := iv_ltr hj11_L1_27l (iv_top v23) (Int32.not_le.mp c27) (by decide)
          refine lv_goto (tgt := 61) hx hb dX10_lifts_30 (by decide) ?_
          exact J61 j11_L1 j11_L2 j11_L3 _ _ _  (iv_w hj11_L1_27l (by decide)) (iv_w hj11_L2 (by decide)) (iv_w hj11_L3 (by decide)) (fun h9 => by have b0a := (hj11_L3).1; have b0b := (hj11_L3).2; have b1a := (hj11_L2).1; have b1b := (hj11_L2).2; omega) hT hS (lv_sub hl [0, 1, 2, 3, 4] rfl)
  refine lv_istore (lv' := [(4, .int (0 : Int32)), (3, .int (0 : Int32)), (2, .int (-1 : Int32)), (1, .int (1000 : Int32)), (0, .ref a0)]) hx hb dX10_lifts_9 hl (by decide) rfl (fun ls hl => ?_)
  have kl0 : (0 : Int32).toInt = 0 := by decide
  have klm1 : (-1 : Int32).toInt = (-1) := by decide
  exact J11 _ (1000 : Int32) (-1 : Int32) (0 : Int32) (0 : Int32) _ _ _ (Nat.lt_succ_self _) (iv_w (iv_c (x := (1000 : Int32)) (k := 1000) (by decide)) (by decide)) (iv_w (iv_c (x := (-1 : Int32)) (k := (-1)) (by decide)) (by decide)) (iv_w (iv_c (x := (0 : Int32)) (k := 0) (by decide)) (by decide)) (iv_w (iv_c (x := (0 : Int32)) (k := 0) (by decide)) (by decide)) (fun h9 => by omega) hT hS (lv_sub hl [4, 3, 2, 1, 0] rfl)
set_option maxHeartbeats 4000000 in
set_option maxRecDepth 100000 in
theorem t_X10_strikesPlainly (l : Launch) {D : va_G} {c0 : Nat → ClassId} {Y : Nat → Option Nat} {ν : Nat → Nat} {H : Heap} (hT : TI D vwCl (tysOf c0) (RTg ν) Y H) {a0 : Nat} (ha0 : Y a0 = some 10) (hU : uq Y) : Met l yX10_strikesPlainly (wz yX10_strikesPlainly cX10_strikesPlainly 2 (some .int)) { frames := 6, cells := 0, slots := 0, locals := 151 } (TP D vwCl (tysOf c0) H [.ref a0]) (TQi (fun x H' => TI D vwCl (tysOf c0) (RTg ν) Y H') Y [29, 30]) 0 0 (pW Y [29, 30]) := by
  refine Met.ofW (cc := cX10_strikesPlainly) (maxL := 2) (ret := (some .int)) (by decide) rfl ?_
  intro p e s m args below meth c s₁ B hml hv
  obtain ⟨rfl, rfl, hK⟩ := hv
  have hx := B.exec
  have hb := B.bytes
  have hr := B.returns
  have hts : ∀ w ∈ wq, w.before _ s = true := fun w h => atoms_spec (ws := wz yX10_strikesPlainly cX10_strikesPlainly 2 (some .int)) B.pre w (List.mem_cons_of_mem _ h)
  have hown : s.vm.findClass RX10 = some m.cls := findClass_of_methodNamed B.named
  have hlocks := B.notSynchronized
  obtain ⟨R, hR⟩ : ∃ R : Room, R = ({ frames := 6, cells := 0, slots := 0, locals := 151 } : Room) := ⟨_, rfl⟩
  rw [show (headSpec (wz yX10_strikesPlainly cX10_strikesPlainly 2 (some .int)) { frames := 6, cells := 0, slots := 0, locals := 151 }).room = R from hR.symm]
  refine ti_mi hx hb hr hlocks (fun Q ret => ?_)
  have hl := lv_entry [.ref a0] (n := 2) (Nat.le_of_ble_eq_true rfl)
  rw [lg_entry_eq]
  generalize (lg_sl [.ref a0] ++ List.replicate (2 - (lg_sl [.ref a0]).length) Slot.unset).toArray = ls at hl ⊢
  have hl : lv_has ls 2 [(0, .ref a0)] := hl
  refine ti_gen (P := fun H => TI D vwCl (tysOf c0) (RTg ν) Y H) (Y := Y) (ws := [29, 30]) hT (fun H locs hT hS => ?_)
  refine lv_aload_n hx hb dX10_strikesPlainly_0 rfl (lv_at hl 0 rfl) ?_
  refine ti_calli (va_runV (As := []) (rest := []) ⟨hx, hb, hml, hown, hts⟩ (t_X10_losing l hT ha0 hU) (cwV 0 hts (good_V kw_727 kw_728 kw_729 kw_5 kw_730) rfl rfl rfl (by decide +kernel) ⟨by rw [hR]; decide, by rw [hR]; decide⟩) (ti_preV hK hT ha0 rfl rfl) rfl rfl hl.1 rfl (lv_room (Nat.le_of_ble_eq_true rfl)) dX10_strikesPlainly_1 ⟨Nat.zero_le _, Nat.zero_le _⟩) hS (pW_sub rfl) (fun v1 H locs hB hS _ hk1 => ?_)
  have hT := hB
  refine lv_istore_n (lv' := [(1, .int v1), (0, .ref a0)]) hx hb dX10_strikesPlainly_4 rfl hl (by decide) rfl (fun ls hl => ?_)
  refine lv_aload_n hx hb dX10_strikesPlainly_5 rfl (lv_at hl 1 rfl) ?_
  refine ti_getr hx hb hts inlX10 hown hK hT ha0 rfl rfl rfl 1 (by decide) (hts _ kw_130) (fun _ h9 => h9) rfl dX10_strikesPlainly_6 (fun v6 hv6 hm6 => ?_)
  refine lv_iconst (v := 5) hx hb dX10_strikesPlainly_9 (by decide) ?_
  refine ti_iald (lo := (-2147483648)) (hi := 2147483647) hx hb (aT0 hK) hT hv6 rfl (iv_c (x := (5 : Int32)) (k := 5) (by decide)) (by decide) (one_j 5 rfl rfl (by decide) (by decide)) dX10_strikesPlainly_10 (fun v10 hv10 hm10 => ?_)
  refine lv_iconst (v := 1) hx hb dX10_strikesPlainly_11 (by decide) ?_
  refine lv_icmp_ne (tgt := 29) hx hb dX10_strikesPlainly_12 (by decide) (fun c12 => ?_) (fun c12 => ?_)
  · skip
    have kl1 : (1 : Int32).toInt = 1 := by decide
    have f12 := i_ne c12
    refine lv_iload_n hx hb dX10_strikesPlainly_29 rfl (lv_at hl 0 rfl) ?_
    exact ret _ _ _ _ _ dX10_strikesPlainly_30 (hT) hS
  · skip
    have kl1 : (1 : Int32).toInt = 1 := by decide
    have f12 := i_eq c12
    have hv10_12l : iv v10 1 1 := iv_eql hv10 (iv_c (x := (1 : Int32)) (k := 1) (by decide)) c12 (by decide)
    refine lv_aload_n hx hb dX10_strikesPlainly_15 rfl (lv_at hl 1 rfl) ?_
    refine ti_getE (ci := 10) (v := .ref v6) hx hb hts inlX10 hown hK hm6 rfl (by decide) (hts _ kw_130) (fun _ h9 => h9) dX10_strikesPlainly_16 ?_
    refine lv_bipush (v := 13) hx hb dX10_strikesPlainly_19 (by decide) ?_
    refine ti_iald (lo := (-2147483648)) (hi := 2147483647) hx hb (aT0 hK) hT hv6 rfl (iv_c (x := (13 : Int32)) (k := 13) (by decide)) (by decide) (one_j 13 rfl rfl (by decide) (by decide)) dX10_strikesPlainly_21 (fun v21 hv21 hm21 => ?_)
    refine lv_if_ne (tgt := 29) hx hb dX10_strikesPlainly_22 (by decide) (fun c22 => ?_) (fun c22 => ?_)
    · skip
      have kl0 : (0 : Int32).toInt = 0 := by decide
      have f22 := i_ne c22
      refine lv_iload_n hx hb dX10_strikesPlainly_29 rfl (lv_at hl 0 rfl) ?_
      exact ret _ _ _ _ _ dX10_strikesPlainly_30 (hT) hS
    · skip
      have kl0 : (0 : Int32).toInt = 0 := by decide
      have f22 := i_eq c22
      have hv21_22l : iv v21 0 0 := iv_eql hv21 (iv_c (x := (0 : Int32)) (k := 0) (by decide)) c22 (by decide)
      refine lv_aload_n hx hb dX10_strikesPlainly_25 rfl (lv_at hl 1 rfl) ?_
      refine ti_callv (va_runV (As := []) (rest := []) ⟨hx, hb, hml, hown, hts⟩ (t_X10_lifts l hT ha0 hU) (cwV 0 hts (good_V kw_731 kw_732 kw_733 kw_5 kw_734) rfl rfl rfl (by decide +kernel) ⟨by rw [hR]; decide, by rw [hR]; decide⟩) (ti_preV hK hT ha0 rfl rfl) rfl rfl hl.1 rfl (lv_room (Nat.le_of_ble_eq_true rfl)) dX10_strikesPlainly_26 ⟨Nat.zero_le _, Nat.zero_le _⟩) hS (pW_sub rfl) (fun H locs hB hS _ hk26 => ?_)
      have hT := hB
      refine lv_iload_n hx hb dX10_strikesPlainly_29 rfl (lv_at hl 0 rfl) ?_
      exact ret _ _ _ _ _ dX10_strikesPlainly_30 (hT) hS
set_option maxHeartbeats 4000000 in
set_option maxRecDepth 100000 in
theorem t_X10_finds (l : Launch) {D : va_G} {c0 : Nat → ClassId} {Y : Nat → Option Nat} {ν : Nat → Nat} {H : Heap} (hT : TI D vwCl (tysOf c0) (RTg ν) Y H) {a0 : Nat} (ha0 : Y a0 = some 10) (hU : uq Y) : Met l yX10_finds (wz yX10_finds cX10_finds 3 none) { frames := 2, cells := 0, slots := 0, locals := 82 } (TP D vwCl (tysOf c0) H [.ref a0]) (TQv (fun H' => TI D vwCl (tysOf c0) (RTg ν) Y H') Y [10, 30]) 0 0 (pW Y [10, 30]) := by
  refine Met.ofW (cc := cX10_finds) (maxL := 3) (ret := none) (by decide) rfl ?_
  intro p e s m args below meth c s₁ B hml hv
  obtain ⟨rfl, rfl, hK⟩ := hv
  have hx := B.exec
  have hb := B.bytes
  have hr := B.returns
  have hts : ∀ w ∈ wq, w.before _ s = true := fun w h => atoms_spec (ws := wz yX10_finds cX10_finds 3 none) B.pre w (List.mem_cons_of_mem _ h)
  have hown : s.vm.findClass RX10 = some m.cls := findClass_of_methodNamed B.named
  have hlocks := B.notSynchronized
  obtain ⟨R, hR⟩ : ∃ R : Room, R = ({ frames := 2, cells := 0, slots := 0, locals := 82 } : Room) := ⟨_, rfl⟩
  rw [show (headSpec (wz yX10_finds cX10_finds 3 none) { frames := 2, cells := 0, slots := 0, locals := 82 }).room = R from hR.symm]
  refine ti_mv hx hb hr hlocks (fun Q ret => ?_)
  have hl := lv_entry [.ref a0] (n := 3) (Nat.le_of_ble_eq_true rfl)
  rw [lg_entry_eq]
  generalize (lg_sl [.ref a0] ++ List.replicate (3 - (lg_sl [.ref a0]).length) Slot.unset).toArray = ls at hl ⊢
  have hl : lv_has ls 3 [(0, .ref a0)] := hl
  refine ti_gen (P := fun H => TI D vwCl (tysOf c0) (RTg ν) Y H) (Y := Y) (ws := [10, 30]) hT (fun H locs hT hS => ?_)
  refine lv_iconst (v := 0) hx hb dX10_finds_0 (by decide) ?_
  have J2 : ∀ (n : Nat) (j2_L1 : Int32) (H : Heap) (locs : List Loc) (ls : Array Slot), (8 - j2_L1.toInt).toNat < n → iv j2_L1 0 8 → TI D vwCl (tysOf c0) (RTg ν) Y H → va_S (pW Y [10, 30]) s.heap H locs → lv_has ls 3 [(0, .ref a0), (1, .int j2_L1)] → W p l e R s m ([.ref a0] : List Value).toArray below meth c H locs 0 0 Q (F0 m 2 ls []) := by
    intro n
    induction n with
    | zero => intro j2_L1 H locs ls hms; exact absurd hms (Nat.not_lt_zero _)
    | succ n ih2 =>
      intro j2_L1 H locs ls hms2 hj2_L1 hT hS hl
      refine lv_iload_n hx hb dX10_finds_2 rfl (lv_at hl 1 rfl) ?_
      refine lv_aload_n hx hb dX10_finds_3 rfl (lv_at hl 0 rfl) ?_
      refine ti_calli (va_runV (As := []) (rest := [.int j2_L1]) ⟨hx, hb, hml, hown, hts⟩ (t_X10_people l hT ha0 hU) (cwV 0 hts (good_V kw_605 kw_606 kw_607 kw_5 kw_608) rfl rfl rfl (by decide +kernel) ⟨by rw [hR]; decide, by rw [hR]; decide⟩) (ti_preV hK hT ha0 rfl rfl) rfl rfl hl.1 rfl (lv_room (Nat.le_of_ble_eq_true rfl)) dX10_finds_4 ⟨Nat.zero_le _, Nat.zero_le _⟩) hS (pW_sub rfl) (fun v4 H1 locs hB hS _ hk4 => ?_)
      obtain ⟨hH, hv4, hp4⟩ := hB
      rw [hH] at hS ⊢
      refine lv_icmp_ge (tgt := 90) hx hb dX10_finds_7 (by decide) (fun c7 => ?_) (fun c7 => ?_)
      · skip
        have f7 := i_le c7
        exact ret _ _ _ _ dX10_finds_90 (hT) hS
      · skip
        have f7 := i_nle c7
        have hj2_L1_7l : iv j2_L1 0 7 := iv_ltl hj2_L1 hv4 (Int32.not_le.mp c7) (by decide)
        have hv4_7r : iv v4 1 8 := iv_ltr hj2_L1_7l hv4 (Int32.not_le.mp c7) (by decide)
        refine lv_aload_n hx hb dX10_finds_10 rfl (lv_at hl 0 rfl) ?_
        refine ti_getr hx hb hts inlX10 hown hK hT ha0 rfl rfl rfl 1 (by decide) (hts _ kw_130) (fun _ h9 => h9) rfl dX10_finds_11 (fun v11 hv11 hm11 => ?_)
        refine lv_bipush (v := 6) hx hb dX10_finds_14 (by decide) ?_
        refine ti_iald (lo := (-2147483648)) (hi := 2147483647) hx hb (aT0 hK) hT hv11 rfl (iv_c (x := (6 : Int32)) (k := 6) (by decide)) (by decide) (one_j 6 rfl rfl (by decide) (by decide)) dX10_finds_16 (fun v16 hv16 hm16 => ?_)
        refine lv_if_le (tgt := 90) hx hb dX10_finds_17 (by decide) (fun c17 => ?_) (fun c17 => ?_)
        · skip
          have kl0 : (0 : Int32).toInt = 0 := by decide
          have f17 := i_le c17
          have hv16_17l : iv v16 (-2147483648) 0 := iv_lel hv16 (iv_c (x := (0 : Int32)) (k := 0) (by decide)) c17 (by decide)
          exact ret _ _ _ _ dX10_finds_90 (hT) hS
        · skip
          have kl0 : (0 : Int32).toInt = 0 := by decide
          have f17 := i_nle c17
          have hv16_17r : iv v16 1 2147483647 := iv_ltr (iv_c (x := (0 : Int32)) (k := 0) (by decide)) hv16 (Int32.not_le.mp c17) (by decide)
          refine lv_aload_n hx hb dX10_finds_20 rfl (lv_at hl 0 rfl) ?_
          refine lv_iload_n hx hb dX10_finds_21 rfl (lv_at hl 1 rfl) ?_
          refine lv_iconst (v := 1) hx hb dX10_finds_22 (by decide) ?_
          refine ti_calli (va_runV (As := [.int j2_L1, .int (1 : Int32)]) (rest := []) ⟨hx, hb, hml, hown, hts⟩ (t_X10_of l hT ha0 (iv_w hj2_L1_7l (by decide)) (iv_w (iv_c (x := (1 : Int32)) (k := 1) (by decide)) (by decide)) hU) (cwV 2 hts (good_V kw_490 kw_491 kw_492 kw_5 kw_493) rfl rfl rfl (by decide +kernel) ⟨by rw [hR]; decide, by rw [hR]; decide⟩) (ti_preV hK hT ha0 rfl rfl) rfl rfl hl.1 rfl (lv_room (Nat.le_of_ble_eq_true rfl)) dX10_finds_23 ⟨Nat.zero_le _, Nat.zero_le _⟩) hS (pW_sub rfl) (fun v23 H1 locs hB hS _ hk23 => ?_)
          obtain ⟨hH, hp23⟩ := hB
          rw [hH] at hS ⊢
          have kl1 : (1 : Int32).toInt = 1 := by decide
          have J84 : ∀  (H : Heap) (locs : List Loc) (ls : Array Slot), TI D vwCl (tysOf c0) (RTg ν) Y H → va_S (pW Y [10, 30]) s.heap H locs → lv_has ls 3 [(0, .ref a0), (1, .int j2_L1)] → W p l e R s m ([.ref a0] : List Value).toArray below meth c H locs 0 0 Q (F0 m 84 ls []) := by
            intro  H locs ls  hT hS hl
            obtain ⟨v84, e84⟩ : ∃ y : Int32, y = j2_L1 + 1 := ⟨_, rfl⟩
            have hv84 : iv v84 1 8 := by rw [e84]; exact iv_w (iv_add hj2_L1_7l (iv_c (x := (1 : Int32)) (k := 1) (by decide)) (by decide)) (by decide)
            have s84 : v84.toInt = j2_L1.toInt + 1 := by rw [e84, iv_addE hj2_L1_7l (iv_c (x := (1 : Int32)) (k := 1) (by decide)) (by decide)]; rfl
            refine lv_iinc (v := v84) (lv' := [(1, .int v84), (0, .ref a0)]) hx hb dX10_finds_84 hl (k := 1) rfl (by rw [e84]; rfl) (by decide) rfl (fun ls hl => ?_)
            refine lv_goto (tgt := 2) hx hb dX10_finds_87 (by decide) ?_
            exact ih2 v84 _ _ _ (ms_up hms2 (by have := s84; omega) (iv_w (c := 1) (d := 8) hv84 (by decide)).2) (iv_w hv84 (by decide)) hT hS (lv_sub hl [1, 0] rfl)
          refine lv_if_eq (tgt := 84) hx hb dX10_finds_26 (by decide) (fun c26 => ?_) (fun c26 => ?_)
          · skip
            have f26 := i_eq c26
            have hv23_26l : iv v23 0 0 := iv_eql (iv_top v23) (iv_c (x := (0 : Int32)) (k := 0) (by decide)) c26 (by decide)
            exact J84  _ _ _   hT hS (lv_sub hl [0, 1] rfl)
          · skip
            have f26 := i_ne c26
            refine lv_aload_n hx hb dX10_finds_29 rfl (lv_at hl 0 rfl) ?_
            refine ti_calli (va_runV (As := []) (rest := []) ⟨hx, hb, hml, hown, hts⟩ (t_X10_draw l hT ha0 hU) (cwV 0 hts (good_V kw_739 kw_740 kw_741 kw_5 kw_742) rfl rfl rfl (by decide +kernel) ⟨by rw [hR]; decide, by rw [hR]; decide⟩) (ti_preV hK hT ha0 rfl rfl) rfl rfl hl.1 rfl (lv_room (Nat.le_of_ble_eq_true rfl)) dX10_finds_30 ⟨Nat.zero_le _, Nat.zero_le _⟩) hS (pW_sub rfl) (fun v30 H locs hB hS _ hk30 => ?_)
            have hT := hB
            refine lv_aload_n hx hb dX10_finds_33 rfl (lv_at hl 0 rfl) ?_
            refine ti_getr hx hb hts inlX10 hown hK hT ha0 rfl rfl rfl 1 (by decide) (hts _ kw_130) (fun _ h9 => h9) rfl dX10_finds_34 (fun v34 hv34 hm34 => ?_)
            obtain rfl : v11 = v34 := hU 30 v11 v34 (by decide) hv11 hv34
            refine lv_bipush (v := 6) hx hb dX10_finds_37 (by decide) ?_
            refine ti_ialdE (v := .int v16) hx hb (aT0 hK) hT hv11 rfl (iv_c (x := (6 : Int32)) (k := 6) (by decide)) (by decide) ((hm16.call hk30 (pW_not hv11 rfl))) dX10_finds_39 ?_
            refine lv_icmp_lt (tgt := 46) hx hb dX10_finds_40 (by decide) (fun c40 => ?_) (fun c40 => ?_)
            · skip
              have f40 := i_lt c40
              have hv30_40l : iv v30 (-2147483648) 2147483646 := iv_ltl (iv_top v30) hv16_17r c40 (by decide)
              refine lv_aload_n hx hb dX10_finds_46 rfl (lv_at hl 0 rfl) ?_
              refine lv_iload_n hx hb dX10_finds_47 rfl (lv_at hl 1 rfl) ?_
              refine lv_iconst (v := 1) hx hb dX10_finds_48 (by decide) ?_
              refine ti_calli (va_runV (As := [.int j2_L1, .int (1 : Int32)]) (rest := []) ⟨hx, hb, hml, hown, hts⟩ (t_X10_of l hT ha0 (iv_w hj2_L1_7l (by decide)) (iv_w (iv_c (x := (1 : Int32)) (k := 1) (by decide)) (by decide)) hU) (cwV 2 hts (good_V kw_490 kw_491 kw_492 kw_5 kw_493) rfl rfl rfl (by decide +kernel) ⟨by rw [hR]; decide, by rw [hR]; decide⟩) (ti_preV hK hT ha0 rfl rfl) rfl rfl hl.1 rfl (lv_room (Nat.le_of_ble_eq_true rfl)) dX10_finds_49 ⟨Nat.zero_le _, Nat.zero_le _⟩) hS (pW_sub rfl) (fun v49 H1 locs hB hS _ hk49 => ?_)
              obtain ⟨hH, hp49⟩ := hB
              rw [hH] at hS ⊢
              refine lv_istore_n (lv' := [(2, .int v49), (0, .ref a0), (1, .int j2_L1)]) hx hb dX10_finds_52 rfl hl (by decide) rfl (fun ls hl => ?_)
              refine lv_aload_n hx hb dX10_finds_53 rfl (lv_at hl 1 rfl) ?_
              refine ti_getE (ci := 10) (v := .ref v11) hx hb hts inlX10 hown hK hm34 rfl (by decide) (hts _ kw_130) (fun _ h9 => h9) dX10_finds_54 ?_
              refine lv_bipush (v := 10) hx hb dX10_finds_57 (by decide) ?_
              refine lv_dup2_11 hx hb dX10_finds_59 rfl rfl ?_
              refine ti_iald (lo := (-2147483648)) (hi := 2147483647) hx hb (aT0 hK) hT hv11 rfl (iv_c (x := (10 : Int32)) (k := 10) (by decide)) (by decide) (one_j 10 rfl rfl (by decide) (by decide)) dX10_finds_60 (fun v60 hv60 hm60 => ?_)
              refine lv_iload_n hx hb dX10_finds_61 rfl (lv_at hl 0 rfl) ?_
              refine lv_iadd hx hb dX10_finds_62 ?_
              refine lv_topi (fun v62 e62 => ?_)
              have hv62 : iv v62 (-2147483648) 2147483647 := iv_top _
              refine ti_iast hx hb (aT0 hK) hT hS hv11 rfl rfl (iv_c (x := (10 : Int32)) (k := 10) (by decide)) (by decide) (one_s 10 rfl rfl (by decide) (by decide)) hv62 (fun _ _ => trivial) dX10_finds_63 (fun H locs hT hS oq63 he63 hk63 => ?_)
              refine lv_aload_n hx hb dX10_finds_64 rfl (lv_at hl 1 rfl) ?_
              refine lv_iload_n hx hb dX10_finds_65 rfl (lv_at hl 2 rfl) ?_
              refine lv_iconst (v := 1) hx hb dX10_finds_66 (by decide) ?_
              refine lv_iconst (v := 0) hx hb dX10_finds_67 (by decide) ?_
              refine ti_callv (va_runV (As := [.int j2_L1, .int (1 : Int32), .int (0 : Int32)]) (rest := []) ⟨hx, hb, hml, hown, hts⟩ (t_X10_set l hT ha0 (iv_w hj2_L1_7l (by decide)) (iv_w (iv_c (x := (1 : Int32)) (k := 1) (by decide)) (by decide)) (iv_w (iv_c (x := (0 : Int32)) (k := 0) (by decide)) (by decide)) (fun h9 => by have b0a := (hj2_L1_7l).1; have b0b := (hj2_L1_7l).2; omega) hU) (cwV 3 hts (good_V kw_511 kw_512 kw_513 kw_5 kw_514) rfl rfl rfl (by decide +kernel) ⟨by rw [hR]; decide, by rw [hR]; decide⟩) (ti_preV hK hT ha0 rfl rfl) rfl rfl hl.1 rfl (lv_room (Nat.le_of_ble_eq_true rfl)) dX10_finds_68 ⟨Nat.zero_le _, Nat.zero_le _⟩) hS (pW_sub rfl) (fun H locs hB hS _ hk68 => ?_)
              obtain ⟨hT, hp68⟩ := hB
              refine lv_aload_n hx hb dX10_finds_71 rfl (lv_at hl 1 rfl) ?_
              refine lv_iload_n hx hb dX10_finds_72 rfl (lv_at hl 2 rfl) ?_
              refine lv_aload_n hx hb dX10_finds_73 rfl (lv_at hl 1 rfl) ?_
              refine lv_iload_n hx hb dX10_finds_74 rfl (lv_at hl 2 rfl) ?_
              refine lv_iconst (v := 0) hx hb dX10_finds_75 (by decide) ?_
              refine ti_calli (va_runV (As := [.int j2_L1, .int (0 : Int32)]) (rest := [.int j2_L1, .ref a0]) ⟨hx, hb, hml, hown, hts⟩ (t_X10_of l hT ha0 (iv_w hj2_L1_7l (by decide)) (iv_w (iv_c (x := (0 : Int32)) (k := 0) (by decide)) (by decide)) hU) (cwV 2 hts (good_V kw_490 kw_491 kw_492 kw_5 kw_493) rfl rfl rfl (by decide +kernel) ⟨by rw [hR]; decide, by rw [hR]; decide⟩) (ti_preV hK hT ha0 rfl rfl) rfl rfl hl.1 rfl (lv_room (Nat.le_of_ble_eq_true rfl)) dX10_finds_76 ⟨Nat.zero_le _, Nat.zero_le _⟩) hS (pW_sub rfl) (fun v76 H1 locs hB hS _ hk76 => ?_)
              obtain ⟨hH, hp76⟩ := hB
              rw [hH] at hS ⊢
              have hf76 : iv v76 (-2147483648) 100000 := by have b0a := ((iv_top v76)).1; have b0b := ((iv_top v76)).2; exact ⟨by omega, by omega⟩
              refine lv_iload_n hx hb dX10_finds_79 rfl (lv_at hl 0 rfl) ?_
              refine lv_isub hx hb dX10_finds_80 ?_
              refine lv_topi (fun v80 e80 => ?_)
              have hv80 : iv v80 (-2147483648) 2147483647 := iv_top _
              refine ti_callv (va_runV (As := [.int j2_L1, .int v80]) (rest := []) ⟨hx, hb, hml, hown, hts⟩ (t_X10_has l hT ha0 (iv_w hj2_L1_7l (by decide)) (iv_w hv80 (by decide)) hU) (cwV 2 hts (good_V kw_507 kw_508 kw_509 kw_5 kw_510) rfl rfl rfl (by decide +kernel) ⟨by rw [hR]; decide, by rw [hR]; decide⟩) (ti_preV hK hT ha0 rfl rfl) rfl rfl hl.1 rfl (lv_room (Nat.le_of_ble_eq_true rfl)) dX10_finds_81 ⟨Nat.zero_le _, Nat.zero_le _⟩) hS (pW_sub rfl) (fun H locs hB hS _ hk81 => ?_)
              obtain ⟨hT, hp81⟩ := hB
              exact J84  _ _ _   hT hS (lv_sub hl [1, 2] rfl)
            · skip
              have f40 := i_nlt c40
              have hv30_40r : iv v30 1 2147483647 := iv_ler hv16_17r (iv_top v30) (Int32.not_lt.mp c40) (by decide)
              refine lv_goto (tgt := 84) hx hb dX10_finds_43 (by decide) ?_
              exact J84  _ _ _   hT hS (lv_sub hl [0, 1] rfl)
  refine lv_istore_n (lv' := [(1, .int (0 : Int32)), (0, .ref a0)]) hx hb dX10_finds_1 rfl hl (by decide) rfl (fun ls hl => ?_)
  exact J2 _ (0 : Int32) _ _ _ (Nat.lt_succ_self _) (iv_w (iv_c (x := (0 : Int32)) (k := 0) (by decide)) (by decide)) hT hS (lv_sub hl [1, 0] rfl)
set_option maxHeartbeats 4000000 in
set_option maxRecDepth 100000 in
theorem t_X10_returnsLoans (l : Launch) {D : va_G} {c0 : Nat → ClassId} {Y : Nat → Option Nat} {ν : Nat → Nat} {H : Heap} (hT : TI D vwCl (tysOf c0) (RTg ν) Y H) {a0 : Nat} (ha0 : Y a0 = some 10) (hU : uq Y) : Met l yX10_returnsLoans (wz yX10_returnsLoans cX10_returnsLoans 5 none) { frames := 2, cells := 0, slots := 0, locals := 82 } (TP D vwCl (tysOf c0) H [.ref a0]) (TQv (fun H' => TI D vwCl (tysOf c0) (RTg ν) Y H') Y [30]) 0 0 (pW Y [30]) := by
  refine Met.ofW (cc := cX10_returnsLoans) (maxL := 5) (ret := none) (by decide) rfl ?_
  intro p e s m args below meth c s₁ B hml hv
  obtain ⟨rfl, rfl, hK⟩ := hv
  have hx := B.exec
  have hb := B.bytes
  have hr := B.returns
  have hts : ∀ w ∈ wq, w.before _ s = true := fun w h => atoms_spec (ws := wz yX10_returnsLoans cX10_returnsLoans 5 none) B.pre w (List.mem_cons_of_mem _ h)
  have hown : s.vm.findClass RX10 = some m.cls := findClass_of_methodNamed B.named
  have hlocks := B.notSynchronized
  obtain ⟨R, hR⟩ : ∃ R : Room, R = ({ frames := 2, cells := 0, slots := 0, locals := 82 } : Room) := ⟨_, rfl⟩
  rw [show (headSpec (wz yX10_returnsLoans cX10_returnsLoans 5 none) { frames := 2, cells := 0, slots := 0, locals := 82 }).room = R from hR.symm]
  refine ti_mv hx hb hr hlocks (fun Q ret => ?_)
  have hl := lv_entry [.ref a0] (n := 5) (Nat.le_of_ble_eq_true rfl)
  rw [lg_entry_eq]
  generalize (lg_sl [.ref a0] ++ List.replicate (5 - (lg_sl [.ref a0]).length) Slot.unset).toArray = ls at hl ⊢
  have hl : lv_has ls 5 [(0, .ref a0)] := hl
  refine ti_gen (P := fun H => TI D vwCl (tysOf c0) (RTg ν) Y H) (Y := Y) (ws := [30]) hT (fun H locs hT hS => ?_)
  refine lv_iconst (v := 0) hx hb dX10_returnsLoans_0 (by decide) ?_
  have J2 : ∀ (n : Nat) (j2_L1 : Int32) (H : Heap) (locs : List Loc) (ls : Array Slot), (6 - j2_L1.toInt).toNat < n → iv j2_L1 0 6 → TI D vwCl (tysOf c0) (RTg ν) Y H → va_S (pW Y [30]) s.heap H locs → lv_has ls 5 [(0, .ref a0), (1, .int j2_L1)] → W p l e R s m ([.ref a0] : List Value).toArray below meth c H locs 0 0 Q (F0 m 2 ls []) := by
    intro n
    induction n with
    | zero => intro j2_L1 H locs ls hms; exact absurd hms (Nat.not_lt_zero _)
    | succ n ih2 =>
      intro j2_L1 H locs ls hms2 hj2_L1 hT hS hl
      refine lv_iload_n hx hb dX10_returnsLoans_2 rfl (lv_at hl 1 rfl) ?_
      refine lv_aload_n hx hb dX10_returnsLoans_3 rfl (lv_at hl 0 rfl) ?_
      refine ti_getr hx hb hts inlX10 hown hK hT ha0 rfl rfl rfl 1 (by decide) (hts _ kw_130) (fun _ h9 => h9) rfl dX10_returnsLoans_4 (fun v4 hv4 hm4 => ?_)
      refine lv_bipush (v := 9) hx hb dX10_returnsLoans_7 (by decide) ?_
      refine ti_iald (lo := 0) (hi := 6) hx hb (aT0 hK) hT hv4 rfl (iv_c (x := (9 : Int32)) (k := 9) (by decide)) (by decide) (one_j 9 rfl rfl (by decide) (by decide)) dX10_returnsLoans_9 (fun v9 hv9 hm9 => ?_)
      refine lv_icmp_ge (tgt := 100) hx hb dX10_returnsLoans_10 (by decide) (fun c10 => ?_) (fun c10 => ?_)
      · skip
        have f10 := i_le c10
        refine lv_aload_n hx hb dX10_returnsLoans_100 rfl (lv_at hl 0 rfl) ?_
        refine ti_getE (ci := 10) (v := .ref v4) hx hb hts inlX10 hown hK hm4 rfl (by decide) (hts _ kw_130) (fun _ h9 => h9) dX10_returnsLoans_101 ?_
        refine lv_bipush (v := 9) hx hb dX10_returnsLoans_104 (by decide) ?_
        refine lv_iconst (v := 0) hx hb dX10_returnsLoans_106 (by decide) ?_
        refine ti_iast hx hb (aT0 hK) hT hS hv4 rfl rfl (iv_c (x := (9 : Int32)) (k := 9) (by decide)) (by decide) (one_s 9 rfl rfl (by decide) (by decide)) (iv_c (x := (0 : Int32)) (k := 0) (by decide)) (fun _ _ => trivial) dX10_returnsLoans_107 (fun H locs hT hS oq107 he107 hk107 => ?_)
        exact ret _ _ _ _ dX10_returnsLoans_108 (hT) hS
      · skip
        have f10 := i_nle c10
        have hj2_L1_10l : iv j2_L1 0 5 := iv_ltl hj2_L1 hv9 (Int32.not_le.mp c10) (by decide)
        have hv9_10r : iv v9 1 6 := iv_ltr hj2_L1_10l hv9 (Int32.not_le.mp c10) (by decide)
        refine lv_aload_n hx hb dX10_returnsLoans_13 rfl (lv_at hl 0 rfl) ?_
        refine ti_getE (ci := 10) (v := .ref v4) hx hb hts inlX10 hown hK hm4 rfl (by decide) (hts _ kw_130) (fun _ h9 => h9) dX10_returnsLoans_14 ?_
        refine lv_sipush (v := 160) hx hb dX10_returnsLoans_17 (by decide) ?_
        refine lv_iconst (v := 3) hx hb dX10_returnsLoans_20 (by decide) ?_
        refine lv_iload_n hx hb dX10_returnsLoans_21 rfl (lv_at hl 1 rfl) ?_
        refine lv_imul hx hb dX10_returnsLoans_22 ?_
        refine lv_topi (fun v22 e22 => ?_)
        have hv22 : iv v22 0 15 := by rw [e22]; exact iv_mul (iv_c (x := (3 : Int32)) (k := 3) (by decide)) hj2_L1_10l (by decide)
        have kl3 : (3 : Int32).toInt = 3 := by decide
        have s22 : v22.toInt = (3 : Int32).toInt * j2_L1.toInt := by rw [e22]; exact iv_mulE (iv_c (x := (3 : Int32)) (k := 3) (by decide)) hj2_L1_10l (by decide)
        have s22 : v22.toInt = 3 * j2_L1.toInt := by rw [s22]; simp only [show (3 : Int32).toInt = 3 from by decide]; try omega
        refine lv_iadd hx hb dX10_returnsLoans_23 ?_
        refine lv_topi (fun v23 e23 => ?_)
        have hv23 : iv v23 160 175 := by rw [e23]; exact iv_w (iv_add (iv_c (x := (160 : Int32)) (k := 160) (by decide)) hv22 (by decide)) (by decide)
        have s23 : v23.toInt = (160 : Int32).toInt + v22.toInt := by rw [e23]; exact iv_addE (iv_c (x := (160 : Int32)) (k := 160) (by decide)) hv22 (by decide)
        have kl160 : (160 : Int32).toInt = 160 := by decide
        refine ti_ialdD hx hb (aT0 hK) hT hv4 rfl hv23 (by decide) (fun j => wfg_i j) dX10_returnsLoans_24 (fun v24 dv24 hm24 => ?_)
        have hv24 : iv v24 0 7 := gm_iv dv24 (j' := 160 + 3 * j2_L1.toNatClampNeg) (by have b0a := (hj2_L1_10l).1; have b0b := (hj2_L1_10l).2; have b1a := (hv9_10r).1; have b1b := (hv9_10r).2; have b2a := (hv22).1; have b2b := (hv22).2; have b3a := (hv23).1; have b3b := (hv23).2; show v23.toInt.toNat = 160 + 3 * j2_L1.toInt.toNat; omega) (loan_ld _ (by have b0a := (hj2_L1_10l).1; have b0b := (hj2_L1_10l).2; have b1a := (hv9_10r).1; have b1b := (hv9_10r).2; have b2a := (hv22).1; have b2b := (hv22).2; have b3a := (hv23).1; have b3b := (hv23).2; show j2_L1.toInt.toNat < 6; omega)).1
        refine lv_istore_n (lv' := [(2, .int v24), (0, .ref a0), (1, .int j2_L1)]) hx hb dX10_returnsLoans_25 rfl hl (by decide) rfl (fun ls hl => ?_)
        refine lv_aload_n hx hb dX10_returnsLoans_26 rfl (lv_at hl 1 rfl) ?_
        refine ti_getE (ci := 10) (v := .ref v4) hx hb hts inlX10 hown hK hm4 rfl (by decide) (hts _ kw_130) (fun _ h9 => h9) dX10_returnsLoans_27 ?_
        refine lv_sipush (v := 160) hx hb dX10_returnsLoans_30 (by decide) ?_
        refine lv_iconst (v := 3) hx hb dX10_returnsLoans_33 (by decide) ?_
        refine lv_iload_n hx hb dX10_returnsLoans_34 rfl (lv_at hl 2 rfl) ?_
        refine lv_imul hx hb dX10_returnsLoans_35 ?_
        refine lv_topi (fun v35 e35 => ?_)
        have hv35 : iv v35 0 15 := by rw [e35]; exact iv_mul (iv_c (x := (3 : Int32)) (k := 3) (by decide)) hj2_L1_10l (by decide)
        have s35 : v35.toInt = (3 : Int32).toInt * j2_L1.toInt := by rw [e35]; exact iv_mulE (iv_c (x := (3 : Int32)) (k := 3) (by decide)) hj2_L1_10l (by decide)
        have s35 : v35.toInt = 3 * j2_L1.toInt := by rw [s35]; simp only [show (3 : Int32).toInt = 3 from by decide]; try omega
        refine lv_iadd hx hb dX10_returnsLoans_36 ?_
        refine lv_topi (fun v36 e36 => ?_)
        have hv36 : iv v36 160 175 := by rw [e36]; exact iv_w (iv_add (iv_c (x := (160 : Int32)) (k := 160) (by decide)) hv35 (by decide)) (by decide)
        have s36 : v36.toInt = (160 : Int32).toInt + v35.toInt := by rw [e36]; exact iv_addE (iv_c (x := (160 : Int32)) (k := 160) (by decide)) hv35 (by decide)
        refine lv_iconst (v := 1) hx hb dX10_returnsLoans_37 (by decide) ?_
        refine lv_iadd hx hb dX10_returnsLoans_38 ?_
        refine lv_topi (fun v38 e38 => ?_)
        have hv38 : iv v38 161 176 := by rw [e38]; exact iv_w (iv_add hv36 (iv_c (x := (1 : Int32)) (k := 1) (by decide)) (by decide)) (by decide)
        have s38 : v38.toInt = v36.toInt + 1 := by rw [e38, iv_addE hv36 (iv_c (x := (1 : Int32)) (k := 1) (by decide)) (by decide)]; rfl
        have kl1 : (1 : Int32).toInt = 1 := by decide
        refine ti_ialdD hx hb (aT0 hK) hT hv4 rfl hv38 (by decide) (fun j => wfg_i j) dX10_returnsLoans_39 (fun v39 dv39 hm39 => ?_)
        have hv39 : iv v39 0 7 := gm_iv dv39 (j' := 160 + 3 * j2_L1.toNatClampNeg + 1) (by have b0a := (hj2_L1_10l).1; have b0b := (hj2_L1_10l).2; have b1a := (hv9_10r).1; have b1b := (hv9_10r).2; have b2a := (hv22).1; have b2b := (hv22).2; have b3a := (hv23).1; have b3b := (hv23).2; have b4a := (hv24).1; have b4b := (hv24).2; have b5a := (hv35).1; have b5b := (hv35).2; have b6a := (hv36).1; have b6b := (hv36).2; have b7a := (hv38).1; have b7b := (hv38).2; show v38.toInt.toNat = 160 + 3 * j2_L1.toInt.toNat + 1; omega) (loan_ld _ (by have b0a := (hj2_L1_10l).1; have b0b := (hj2_L1_10l).2; have b1a := (hv9_10r).1; have b1b := (hv9_10r).2; have b2a := (hv22).1; have b2b := (hv22).2; have b3a := (hv23).1; have b3b := (hv23).2; have b4a := (hv24).1; have b4b := (hv24).2; have b5a := (hv35).1; have b5b := (hv35).2; have b6a := (hv36).1; have b6b := (hv36).2; have b7a := (hv38).1; have b7b := (hv38).2; show j2_L1.toInt.toNat < 6; omega)).2.1
        refine lv_istore_n (lv' := [(3, .int v39), (2, .int v24), (0, .ref a0), (1, .int j2_L1)]) hx hb dX10_returnsLoans_40 rfl hl (by decide) rfl (fun ls hl => ?_)
        refine lv_aload_n hx hb dX10_returnsLoans_41 rfl (lv_at hl 2 rfl) ?_
        refine ti_getE (ci := 10) (v := .ref v4) hx hb hts inlX10 hown hK hm4 rfl (by decide) (hts _ kw_130) (fun _ h9 => h9) dX10_returnsLoans_42 ?_
        refine lv_sipush (v := 160) hx hb dX10_returnsLoans_45 (by decide) ?_
        refine lv_iconst (v := 3) hx hb dX10_returnsLoans_48 (by decide) ?_
        refine lv_iload_n hx hb dX10_returnsLoans_49 rfl (lv_at hl 3 rfl) ?_
        refine lv_imul hx hb dX10_returnsLoans_50 ?_
        refine lv_topi (fun v50 e50 => ?_)
        have hv50 : iv v50 0 15 := by rw [e50]; exact iv_mul (iv_c (x := (3 : Int32)) (k := 3) (by decide)) hj2_L1_10l (by decide)
        have s50 : v50.toInt = (3 : Int32).toInt * j2_L1.toInt := by rw [e50]; exact iv_mulE (iv_c (x := (3 : Int32)) (k := 3) (by decide)) hj2_L1_10l (by decide)
        have s50 : v50.toInt = 3 * j2_L1.toInt := by rw [s50]; simp only [show (3 : Int32).toInt = 3 from by decide]; try omega
        refine lv_iadd hx hb dX10_returnsLoans_51 ?_
        refine lv_topi (fun v51 e51 => ?_)
        have hv51 : iv v51 160 175 := by rw [e51]; exact iv_w (iv_add (iv_c (x := (160 : Int32)) (k := 160) (by decide)) hv50 (by decide)) (by decide)
        have s51 : v51.toInt = (160 : Int32).toInt + v50.toInt := by rw [e51]; exact iv_addE (iv_c (x := (160 : Int32)) (k := 160) (by decide)) hv50 (by decide)
        refine lv_iconst (v := 2) hx hb dX10_returnsLoans_52 (by decide) ?_
        refine lv_iadd hx hb dX10_returnsLoans_53 ?_
        refine lv_topi (fun v53 e53 => ?_)
        have hv53 : iv v53 162 177 := by rw [e53]; exact iv_w (iv_add hv51 (iv_c (x := (2 : Int32)) (k := 2) (by decide)) (by decide)) (by decide)
        have s53 : v53.toInt = v51.toInt + 2 := by rw [e53, iv_addE hv51 (iv_c (x := (2 : Int32)) (k := 2) (by decide)) (by decide)]; rfl
        have kl2 : (2 : Int32).toInt = 2 := by decide
        refine ti_iald (lo := (-2147483648)) (hi := 2147483647) hx hb (aT0 hK) hT hv4 rfl hv53 (by decide) (rng_ld 162 177 (by decide +kernel)) dX10_returnsLoans_54 (fun v54 hv54 hm54 => ?_)
        refine lv_aload_n hx hb dX10_returnsLoans_55 rfl (lv_at hl 2 rfl) ?_
        refine lv_iload_n hx hb dX10_returnsLoans_56 rfl (lv_at hl 0 rfl) ?_
        refine lv_iconst (v := 0) hx hb dX10_returnsLoans_57 (by decide) ?_
        refine ti_calli (va_runV (As := [.int v39, .int (0 : Int32)]) (rest := [.int v54]) ⟨hx, hb, hml, hown, hts⟩ (t_X10_of l hT ha0 (iv_w hv39 (by decide)) (iv_w (iv_c (x := (0 : Int32)) (k := 0) (by decide)) (by decide)) hU) (cwV 2 hts (good_V kw_490 kw_491 kw_492 kw_5 kw_493) rfl rfl rfl (by decide +kernel) ⟨by rw [hR]; decide, by rw [hR]; decide⟩) (ti_preV hK hT ha0 rfl rfl) rfl rfl hl.1 rfl (lv_room (Nat.le_of_ble_eq_true rfl)) dX10_returnsLoans_58 ⟨Nat.zero_le _, Nat.zero_le _⟩) hS (pW_sub rfl) (fun v58 H1 locs hB hS _ hk58 => ?_)
        obtain ⟨hH, hp58⟩ := hB
        rw [hH] at hS ⊢
        have kl0 : (0 : Int32).toInt = 0 := by decide
        have hf58 : iv v58 (-2147483648) 100000 := by have b0a := ((iv_top v58)).1; have b0b := ((iv_top v58)).2; exact ⟨by omega, by omega⟩
        refine va_mmin hx hb (by rw [hml]; exact hl.1.symm) hown (hts _ kw_394) (hts _ kw_211) (hts _ kw_212) (hts _ kw_213) (by rw [hR]; decide) (by rw [hR]; exact Nat.le_of_ble_eq_true rfl) (Nat.zero_le _) (Nat.zero_le _) dX10_returnsLoans_61 ?_
        refine lv_topi (fun v61 e61 => ?_)
        have hv61 : iv v61 (-2147483648) 100000 := by rw [e61]; exact iv_min hv54 hf58 (by decide)
        refine lv_istore (lv' := [(4, .int v61), (3, .int v39), (2, .int v24), (0, .ref a0), (1, .int j2_L1)]) hx hb dX10_returnsLoans_64 hl (by decide) rfl (fun ls hl => ?_)
        refine lv_aload_n hx hb dX10_returnsLoans_66 rfl (lv_at hl 3 rfl) ?_
        refine lv_iload_n hx hb dX10_returnsLoans_67 rfl (lv_at hl 1 rfl) ?_
        refine lv_aload_n hx hb dX10_returnsLoans_68 rfl (lv_at hl 3 rfl) ?_
        refine lv_iload_n hx hb dX10_returnsLoans_69 rfl (lv_at hl 1 rfl) ?_
        refine lv_iconst (v := 0) hx hb dX10_returnsLoans_70 (by decide) ?_
        refine ti_calli (va_runV (As := [.int v39, .int (0 : Int32)]) (rest := [.int v39, .ref a0]) ⟨hx, hb, hml, hown, hts⟩ (t_X10_of l hT ha0 (iv_w hv39 (by decide)) (iv_w (iv_c (x := (0 : Int32)) (k := 0) (by decide)) (by decide)) hU) (cwV 2 hts (good_V kw_490 kw_491 kw_492 kw_5 kw_493) rfl rfl rfl (by decide +kernel) ⟨by rw [hR]; decide, by rw [hR]; decide⟩) (ti_preV hK hT ha0 rfl rfl) rfl rfl hl.1 rfl (lv_room (Nat.le_of_ble_eq_true rfl)) dX10_returnsLoans_71 ⟨Nat.zero_le _, Nat.zero_le _⟩) hS (pW_sub rfl) (fun v71 H1 locs hB hS _ hk71 => ?_)
        obtain ⟨hH, hp71⟩ := hB
        rw [hH] at hS ⊢
        have hf71 : iv v71 (-2147483648) 100000 := by have b0a := ((iv_top v71)).1; have b0b := ((iv_top v71)).2; exact ⟨by omega, by omega⟩
        refine lv_iload hx hb dX10_returnsLoans_74 (lv_at hl 0 rfl) ?_
        refine lv_isub hx hb dX10_returnsLoans_76 ?_
        refine lv_topi (fun v76 e76 => ?_)
        have hv76 : iv v76 (-2147483648) 2147483647 := iv_top _
        refine ti_callv (va_runV (As := [.int v39, .int v76]) (rest := []) ⟨hx, hb, hml, hown, hts⟩ (t_X10_has l hT ha0 (iv_w hv39 (by decide)) (iv_w hv76 (by decide)) hU) (cwV 2 hts (good_V kw_507 kw_508 kw_509 kw_5 kw_510) rfl rfl rfl (by decide +kernel) ⟨by rw [hR]; decide, by rw [hR]; decide⟩) (ti_preV hK hT ha0 rfl rfl) rfl rfl hl.1 rfl (lv_room (Nat.le_of_ble_eq_true rfl)) dX10_returnsLoans_77 ⟨Nat.zero_le _, Nat.zero_le _⟩) hS (pW_sub rfl) (fun H locs hB hS _ hk77 => ?_)
        obtain ⟨hT, hp77⟩ := hB
        refine lv_aload_n hx hb dX10_returnsLoans_80 rfl (lv_at hl 3 rfl) ?_
        refine lv_iload_n hx hb dX10_returnsLoans_81 rfl (lv_at hl 2 rfl) ?_
        refine lv_aload_n hx hb dX10_returnsLoans_82 rfl (lv_at hl 3 rfl) ?_
        refine lv_iload_n hx hb dX10_returnsLoans_83 rfl (lv_at hl 2 rfl) ?_
        refine lv_iconst (v := 0) hx hb dX10_returnsLoans_84 (by decide) ?_
        refine ti_calli (va_runV (As := [.int v24, .int (0 : Int32)]) (rest := [.int v24, .ref a0]) ⟨hx, hb, hml, hown, hts⟩ (t_X10_of l hT ha0 (iv_w hv24 (by decide)) (iv_w (iv_c (x := (0 : Int32)) (k := 0) (by decide)) (by decide)) hU) (cwV 2 hts (good_V kw_490 kw_491 kw_492 kw_5 kw_493) rfl rfl rfl (by decide +kernel) ⟨by rw [hR]; decide, by rw [hR]; decide⟩) (ti_preV hK hT ha0 rfl rfl) rfl rfl hl.1 rfl (lv_room (Nat.le_of_ble_eq_true rfl)) dX10_returnsLoans_85 ⟨Nat.zero_le _, Nat.zero_le _⟩) hS (pW_sub rfl) (fun v85 H1 locs hB hS _ hk85 => ?_)
        obtain ⟨hH, hp85⟩ := hB
        rw [hH] at hS ⊢
        have hf85 : iv v85 (-2147483648) 100000 := by have b0a := ((iv_top v85)).1; have b0b := ((iv_top v85)).2; exact ⟨by omega, by omega⟩
        refine lv_iload hx hb dX10_returnsLoans_88 (lv_at hl 0 rfl) ?_
        refine lv_iadd hx hb dX10_returnsLoans_90 ?_
        refine lv_topi (fun v90 e90 => ?_)
        have hv90 : iv v90 (-2147483648) 2147483647 := iv_top _
        refine ti_callv (va_runV (As := [.int v24, .int v90]) (rest := []) ⟨hx, hb, hml, hown, hts⟩ (t_X10_has l hT ha0 (iv_w hv24 (by decide)) (iv_w hv90 (by decide)) hU) (cwV 2 hts (good_V kw_507 kw_508 kw_509 kw_5 kw_510) rfl rfl rfl (by decide +kernel) ⟨by rw [hR]; decide, by rw [hR]; decide⟩) (ti_preV hK hT ha0 rfl rfl) rfl rfl hl.1 rfl (lv_room (Nat.le_of_ble_eq_true rfl)) dX10_returnsLoans_91 ⟨Nat.zero_le _, Nat.zero_le _⟩) hS (pW_sub rfl) (fun H locs hB hS _ hk91 => ?_)
        obtain ⟨hT, hp91⟩ := hB
        obtain ⟨v94, e94⟩ : ∃ y : Int32, y = j2_L1 + 1 := ⟨_, rfl⟩
        have hv94 : iv v94 1 6 := by rw [e94]; exact iv_w (iv_add hj2_L1_10l (iv_c (x := (1 : Int32)) (k := 1) (by decide)) (by decide)) (by decide)
        have s94 : v94.toInt = j2_L1.toInt + 1 := by rw [e94, iv_addE hj2_L1_10l (iv_c (x := (1 : Int32)) (k := 1) (by decide)) (by decide)]; rfl
        refine lv_iinc (v := v94) (lv' := [(1, .int v94), (4, .int v61), (3, .int v39), (2, .int v24), (0, .ref a0)]) hx hb dX10_returnsLoans_94 hl (k := 4) rfl (by rw [e94]; rfl) (by decide) rfl (fun ls hl => ?_)
        refine lv_goto (tgt := 2) hx hb dX10_returnsLoans_97 (by decide) ?_
        exact ih2 v94 _ _ _ (ms_up hms2 (by have := s94; omega) (iv_w (c := 1) (d := 6) hv94 (by decide)).2) (iv_w hv94 (by decide)) hT hS (lv_sub hl [4, 0] rfl)
  refine lv_istore_n (lv' := [(1, .int (0 : Int32)), (0, .ref a0)]) hx hb dX10_returnsLoans_1 rfl hl (by decide) rfl (fun ls hl => ?_)
  exact J2 _ (0 : Int32) _ _ _ (Nat.lt_succ_self _) (iv_w (iv_c (x := (0 : Int32)) (k := 0) (by decide)) (by decide)) hT hS (lv_sub hl [1, 0] rfl)
set_option maxHeartbeats 4000000 in
set_option maxRecDepth 100000 in
theorem t_X10_strikes (l : Launch) {D : va_G} {c0 : Nat → ClassId} {Y : Nat → Option Nat} {ν : Nat → Nat} {H : Heap} (hT : TI D vwCl (tysOf c0) (RTg ν) Y H) {a0 : Nat} (ha0 : Y a0 = some 10) (hU : uq Y) : Met l yX10_strikes (wz yX10_strikes cX10_strikes 2 (some .int)) { frames := 7, cells := 0, slots := 0, locals := 172 } (TP D vwCl (tysOf c0) H [.ref a0]) (TQi (fun x H' => TI D vwCl (tysOf c0) (RTg ν) Y H') Y [10, 29, 30]) 0 0 (pW Y [10, 29, 30]) := by
  refine Met.ofW (cc := cX10_strikes) (maxL := 2) (ret := (some .int)) (by decide) rfl ?_
  intro p e s m args below meth c s₁ B hml hv
  obtain ⟨rfl, rfl, hK⟩ := hv
  have hx := B.exec
  have hb := B.bytes
  have hr := B.returns
  have hts : ∀ w ∈ wq, w.before _ s = true := fun w h => atoms_spec (ws := wz yX10_strikes cX10_strikes 2 (some .int)) B.pre w (List.mem_cons_of_mem _ h)
  have hown : s.vm.findClass RX10 = some m.cls := findClass_of_methodNamed B.named
  have hlocks := B.notSynchronized
  obtain ⟨R, hR⟩ : ∃ R : Room, R = ({ frames := 7, cells := 0, slots := 0, locals := 172 } : Room) := ⟨_, rfl⟩
  rw [show (headSpec (wz yX10_strikes cX10_strikes 2 (some .int)) { frames := 7, cells := 0, slots := 0, locals := 172 }).room = R from hR.symm]
  refine ti_mi hx hb hr hlocks (fun Q ret => ?_)
  have hl := lv_entry [.ref a0] (n := 2) (Nat.le_of_ble_eq_true rfl)
  rw [lg_entry_eq]
  generalize (lg_sl [.ref a0] ++ List.replicate (2 - (lg_sl [.ref a0]).length) Slot.unset).toArray = ls at hl ⊢
  have hl : lv_has ls 2 [(0, .ref a0)] := hl
  refine ti_gen (P := fun H => TI D vwCl (tysOf c0) (RTg ν) Y H) (Y := Y) (ws := [10, 29, 30]) hT (fun H locs hT hS => ?_)
  refine lv_aload_n hx hb dX10_strikes_0 rfl (lv_at hl 0 rfl) ?_
  refine ti_getr hx hb hts inlX10 hown hK hT ha0 rfl rfl rfl 1 (by decide) (hts _ kw_130) (fun _ h9 => h9) rfl dX10_strikes_1 (fun v1 hv1 hm1 => ?_)
  refine lv_bipush (v := 13) hx hb dX10_strikes_4 (by decide) ?_
  refine ti_iald (lo := (-2147483648)) (hi := 2147483647) hx hb (aT0 hK) hT hv1 rfl (iv_c (x := (13 : Int32)) (k := 13) (by decide)) (by decide) (one_j 13 rfl rfl (by decide) (by decide)) dX10_strikes_6 (fun v6 hv6 hm6 => ?_)
  refine lv_iconst (v := 1) hx hb dX10_strikes_7 (by decide) ?_
  refine lv_icmp_ne (tgt := 13) hx hb dX10_strikes_8 (by decide) (fun c8 => ?_) (fun c8 => ?_)
  · skip
    have kl1 : (1 : Int32).toInt = 1 := by decide
    have f8 := i_ne c8
    refine lv_aload_n hx hb dX10_strikes_13 rfl (lv_at hl 0 rfl) ?_
    refine ti_calli (va_runV (As := []) (rest := []) ⟨hx, hb, hml, hown, hts⟩ (t_X10_strikesPlainly l hT ha0 hU) (cwV 0 hts (good_V kw_723 kw_724 kw_725 kw_5 kw_726) rfl rfl rfl (by decide +kernel) ⟨by rw [hR]; decide, by rw [hR]; decide⟩) (ti_preV hK hT ha0 rfl rfl) rfl rfl hl.1 rfl (lv_room (Nat.le_of_ble_eq_true rfl)) dX10_strikes_14 ⟨Nat.zero_le _, Nat.zero_le _⟩) hS (pW_sub rfl) (fun v14 H locs hB hS _ hk14 => ?_)
    have hT := hB
    refine lv_istore_n (lv' := [(1, .int v14), (0, .ref a0)]) hx hb dX10_strikes_17 rfl hl (by decide) rfl (fun ls hl => ?_)
    refine lv_aload_n hx hb dX10_strikes_18 rfl (lv_at hl 1 rfl) ?_
    refine ti_callv (va_runV (As := []) (rest := []) ⟨hx, hb, hml, hown, hts⟩ (t_X10_finds l hT ha0 hU) (cwV 0 hts (good_V kw_735 kw_736 kw_737 kw_5 kw_738) rfl rfl rfl (by decide +kernel) ⟨by rw [hR]; decide, by rw [hR]; decide⟩) (ti_preV hK hT ha0 rfl rfl) rfl rfl hl.1 rfl (lv_room (Nat.le_of_ble_eq_true rfl)) dX10_strikes_19 ⟨Nat.zero_le _, Nat.zero_le _⟩) hS (pW_sub rfl) (fun H locs hB hS _ hk19 => ?_)
    have hT := hB
    refine lv_aload_n hx hb dX10_strikes_22 rfl (lv_at hl 1 rfl) ?_
    refine ti_callv (va_runV (As := []) (rest := []) ⟨hx, hb, hml, hown, hts⟩ (t_X10_returnsLoans l hT ha0 hU) (cwV 0 hts (good_V kw_748 kw_749 kw_750 kw_5 kw_751) rfl rfl rfl (by decide +kernel) ⟨by rw [hR]; decide, by rw [hR]; decide⟩) (ti_preV hK hT ha0 rfl rfl) rfl rfl hl.1 rfl (lv_room (Nat.le_of_ble_eq_true rfl)) dX10_strikes_23 ⟨Nat.zero_le _, Nat.zero_le _⟩) hS (pW_sub rfl) (fun H locs hB hS _ hk23 => ?_)
    have hT := hB
    refine lv_iload_n hx hb dX10_strikes_26 rfl (lv_at hl 0 rfl) ?_
    exact ret _ _ _ _ _ dX10_strikes_27 (hT) hS
  · skip
    have kl1 : (1 : Int32).toInt = 1 := by decide
    have f8 := i_eq c8
    have hv6_8l : iv v6 1 1 := iv_eql hv6 (iv_c (x := (1 : Int32)) (k := 1) (by decide)) c8 (by decide)
    refine lv_iconst (v := 0) hx hb dX10_strikes_11 (by decide) ?_
    exact ret _ _ _ _ _ dX10_strikes_12 (hT) hS
set_option maxHeartbeats 4000000 in
set_option maxRecDepth 100000 in
theorem t_X10_stroke (l : Launch) {D : va_G} {c0 : Nat → ClassId} {Y : Nat → Option Nat} {ν : Nat → Nat} {H : Heap} (hT : TI D vwCl (tysOf c0) (RTg ν) Y H) {a0 : Nat} (ha0 : Y a0 = some 10) (hU : uq Y) : Met l yX10_stroke (wz yX10_stroke cX10_stroke 1 (some .int)) { frames := 8, cells := 0, slots := 0, locals := 193 } (TP D vwCl (tysOf c0) H [.ref a0]) (TQi (fun x H' => TI D vwCl (tysOf c0) (RTg ν) Y H') Y [10, 29, 30]) 0 0 (pW Y [10, 29, 30]) := by
  refine Met.ofW (cc := cX10_stroke) (maxL := 1) (ret := (some .int)) (by decide) rfl ?_
  intro p e s m args below meth c s₁ B hml hv
  obtain ⟨rfl, rfl, hK⟩ := hv
  have hx := B.exec
  have hb := B.bytes
  have hr := B.returns
  have hts : ∀ w ∈ wq, w.before _ s = true := fun w h => atoms_spec (ws := wz yX10_stroke cX10_stroke 1 (some .int)) B.pre w (List.mem_cons_of_mem _ h)
  have hown : s.vm.findClass RX10 = some m.cls := findClass_of_methodNamed B.named
  have hlocks := B.notSynchronized
  obtain ⟨R, hR⟩ : ∃ R : Room, R = ({ frames := 8, cells := 0, slots := 0, locals := 193 } : Room) := ⟨_, rfl⟩
  rw [show (headSpec (wz yX10_stroke cX10_stroke 1 (some .int)) { frames := 8, cells := 0, slots := 0, locals := 193 }).room = R from hR.symm]
  refine ti_mi hx hb hr hlocks (fun Q ret => ?_)
  have hl := lv_entry [.ref a0] (n := 1) (Nat.le_of_ble_eq_true rfl)
  rw [lg_entry_eq]
  generalize (lg_sl [.ref a0] ++ List.replicate (1 - (lg_sl [.ref a0]).length) Slot.unset).toArray = ls at hl ⊢
  have hl : lv_has ls 1 [(0, .ref a0)] := hl
  refine ti_gen (P := fun H => TI D vwCl (tysOf c0) (RTg ν) Y H) (Y := Y) (ws := [10, 29, 30]) hT (fun H locs hT hS => ?_)
  refine lv_aload_n hx hb dX10_stroke_0 rfl (lv_at hl 0 rfl) ?_
  refine ti_calli (va_runV (As := []) (rest := []) ⟨hx, hb, hml, hown, hts⟩ (t_X10_people l hT ha0 hU) (cwV 0 hts (good_V kw_605 kw_606 kw_607 kw_5 kw_608) rfl rfl rfl (by decide +kernel) ⟨by rw [hR]; decide, by rw [hR]; decide⟩) (ti_preV hK hT ha0 rfl rfl) rfl rfl hl.1 rfl (lv_room (Nat.le_of_ble_eq_true rfl)) dX10_stroke_1 ⟨Nat.zero_le _, Nat.zero_le _⟩) hS (pW_sub rfl) (fun v1 H1 locs hB hS _ hk1 => ?_)
  obtain ⟨hH, hv1, hp1⟩ := hB
  rw [hH] at hS ⊢
  refine lv_if_le (tgt := 14) hx hb dX10_stroke_4 (by decide) (fun c4 => ?_) (fun c4 => ?_)
  · skip
    have kl0 : (0 : Int32).toInt = 0 := by decide
    have f4 := i_le c4
    have hv1_4l : iv v1 0 0 := iv_lel hv1 (iv_c (x := (0 : Int32)) (k := 0) (by decide)) c4 (by decide)
    refine lv_bipush (v := (-2)) hx hb dX10_stroke_14 (by decide) ?_
    exact ret _ _ _ _ _ dX10_stroke_16 (hT) hS
  · skip
    have kl0 : (0 : Int32).toInt = 0 := by decide
    have f4 := i_nle c4
    have hv1_4r : iv v1 1 8 := iv_ltr (iv_c (x := (0 : Int32)) (k := 0) (by decide)) hv1 (Int32.not_le.mp c4) (by decide)
    refine lv_aload_n hx hb dX10_stroke_7 rfl (lv_at hl 0 rfl) ?_
    refine ti_calli (va_runV (As := []) (rest := []) ⟨hx, hb, hml, hown, hts⟩ (t_X10_strikes l hT ha0 hU) (cwV 0 hts (good_V kw_719 kw_720 kw_721 kw_5 kw_722) rfl rfl rfl (by decide +kernel) ⟨by rw [hR]; decide, by rw [hR]; decide⟩) (ti_preV hK hT ha0 rfl rfl) rfl rfl hl.1 rfl (lv_room (Nat.le_of_ble_eq_true rfl)) dX10_stroke_8 ⟨Nat.zero_le _, Nat.zero_le _⟩) hS (pW_sub rfl) (fun v8 H locs hB hS _ hk8 => ?_)
    have hT := hB
    refine lv_goto (tgt := 16) hx hb dX10_stroke_11 (by decide) ?_
    exact ret _ _ _ _ _ dX10_stroke_16 (hT) hS
set_option maxHeartbeats 4000000 in
set_option maxRecDepth 100000 in
theorem t_X10_joy (l : Launch) {D : va_G} {c0 : Nat → ClassId} {Y : Nat → Option Nat} {ν : Nat → Nat} {H : Heap} (hT : TI D vwCl (tysOf c0) (RTg ν) Y H) {a0 : Nat} (ha0 : Y a0 = some 10) {x1 : Int32} (hx1 : iv x1 0 7) {x2 : Int32} (hx2 : iv x2 (-2147483648) 2147483647) (hU : uq Y) : Met l yX10_joy (wz yX10_joy cX10_joy 5 (some .int)) { frames := 1, cells := 0, slots := 0, locals := 60 } (TP D vwCl (tysOf c0) H [.ref a0, .int x1, .int x2]) (TQi (fun x H' => H' = H) Y []) 0 0 (pW Y []) := by
  refine Met.ofW (cc := cX10_joy) (maxL := 5) (ret := (some .int)) (by decide) rfl ?_
  intro p e s m args below meth c s₁ B hml hv
  obtain ⟨rfl, rfl, hK⟩ := hv
  have hx := B.exec
  have hb := B.bytes
  have hr := B.returns
  have hts : ∀ w ∈ wq, w.before _ s = true := fun w h => atoms_spec (ws := wz yX10_joy cX10_joy 5 (some .int)) B.pre w (List.mem_cons_of_mem _ h)
  have hown : s.vm.findClass RX10 = some m.cls := findClass_of_methodNamed B.named
  have hlocks := B.notSynchronized
  obtain ⟨R, hR⟩ : ∃ R : Room, R = ({ frames := 1, cells := 0, slots := 0, locals := 60 } : Room) := ⟨_, rfl⟩
  rw [show (headSpec (wz yX10_joy cX10_joy 5 (some .int)) { frames := 1, cells := 0, slots := 0, locals := 60 }).room = R from hR.symm]
  refine ti_mi hx hb hr hlocks (fun Q ret => ?_)
  have hl := lv_entry [.ref a0, .int x1, .int x2] (n := 5) (Nat.le_of_ble_eq_true rfl)
  rw [lg_entry_eq]
  generalize (lg_sl [.ref a0, .int x1, .int x2] ++ List.replicate (5 - (lg_sl [.ref a0, .int x1, .int x2]).length) Slot.unset).toArray = ls at hl ⊢
  have hl : lv_has ls 5 [(0, .ref a0), (1, .int x1), (2, .int x2)] := hl
  have hS : va_S (pW Y []) s.heap s.heap [] := va_S.rf
  refine lv_iconst (v := 0) hx hb dX10_joy_0 (by decide) ?_
  refine lv_istore_n (lv' := [(3, .int (0 : Int32)), (0, .ref a0), (1, .int x1), (2, .int x2)]) hx hb dX10_joy_1 rfl hl (by decide) rfl (fun ls hl => ?_)
  refine lv_iconst (v := 0) hx hb dX10_joy_2 (by decide) ?_
  have J5 : ∀ (n : Nat) (j5_L3 : Int32) (j5_L4 : Int32) (locs : List Loc) (ls : Array Slot), (2147483647 - j5_L4.toInt).toNat < n → iv j5_L3 (-2147483648) 2147483647 → iv j5_L4 0 2147483647 → va_S (pW Y []) s.heap s.heap locs → lv_has ls 5 [(0, .ref a0), (1, .int x1), (2, .int x2), (3, .int j5_L3), (4, .int j5_L4)] → W p l e R s m ([.ref a0, .int x1, .int x2] : List Value).toArray below meth c s.heap locs 0 0 Q (F0 m 5 ls []) := by
    intro n
    induction n with
    | zero => intro j5_L3 j5_L4 locs ls hms; exact absurd hms (Nat.not_lt_zero _)
    | succ n ih5 =>
      intro j5_L3 j5_L4 locs ls hms5 hj5_L3 hj5_L4 hS hl
      refine lv_iload hx hb dX10_joy_5 (lv_at hl 4 rfl) ?_
      refine lv_iload_n hx hb dX10_joy_7 rfl (lv_at hl 2 rfl) ?_
      refine lv_icmp_ge (tgt := 42) hx hb dX10_joy_8 (by decide) (fun c8 => ?_) (fun c8 => ?_)
      · skip
        have f8 := i_le c8
        refine lv_iload_n hx hb dX10_joy_42 rfl (lv_at hl 3 rfl) ?_
        exact ret _ _ _ _ _ dX10_joy_43 (rfl) hS
      · skip
        have f8 := i_nle c8
        have hj5_L4_8l : iv j5_L4 0 2147483646 := iv_ltl hj5_L4 hx2 (Int32.not_le.mp c8) (by decide)
        have hx2_8r : iv x2 1 2147483647 := iv_ltr hj5_L4_8l hx2 (Int32.not_le.mp c8) (by decide)
        refine lv_iload_n hx hb dX10_joy_11 rfl (lv_at hl 3 rfl) ?_
        refine lv_iconst (v := 0) hx hb dX10_joy_12 (by decide) ?_
        refine lv_aload_n hx hb dX10_joy_13 rfl (lv_at hl 0 rfl) ?_
        refine lv_iload_n hx hb dX10_joy_14 rfl (lv_at hl 1 rfl) ?_
        refine lv_bipush (v := 8) hx hb dX10_joy_15 (by decide) ?_
        refine ti_calli (va_runV (As := [.int x1, .int (8 : Int32)]) (rest := [.int (0 : Int32), .int j5_L3]) ⟨hx, hb, hml, hown, hts⟩ (t_X10_of l hT ha0 (iv_w hx1 (by decide)) (iv_w (iv_c (x := (8 : Int32)) (k := 8) (by decide)) (by decide)) hU) (cwV 2 hts (good_V kw_490 kw_491 kw_492 kw_5 kw_493) rfl rfl rfl (by decide +kernel) ⟨by rw [hR]; decide, by rw [hR]; decide⟩) (ti_preV hK hT ha0 rfl rfl) rfl rfl hl.1 rfl (lv_room (Nat.le_of_ble_eq_true rfl)) dX10_joy_17 ⟨Nat.zero_le _, Nat.zero_le _⟩) hS (pW_sub rfl) (fun v17 H1 locs hB hS _ hk17 => ?_)
        obtain ⟨hH, hp17⟩ := hB
        rw [hH] at hS ⊢
        have kl8 : (8 : Int32).toInt = 8 := by decide
        refine lv_iload hx hb dX10_joy_20 (lv_at hl 4 rfl) ?_
        refine lv_aload_n hx hb dX10_joy_22 rfl (lv_at hl 0 rfl) ?_
        refine lv_iload_n hx hb dX10_joy_23 rfl (lv_at hl 1 rfl) ?_
        refine lv_bipush (v := 9) hx hb dX10_joy_24 (by decide) ?_
        refine ti_calli (va_runV (As := [.int x1, .int (9 : Int32)]) (rest := [.int j5_L4, .int v17, .int (0 : Int32), .int j5_L3]) ⟨hx, hb, hml, hown, hts⟩ (t_X10_of l hT ha0 (iv_w hx1 (by decide)) (iv_w (iv_c (x := (9 : Int32)) (k := 9) (by decide)) (by decide)) hU) (cwV 2 hts (good_V kw_490 kw_491 kw_492 kw_5 kw_493) rfl rfl rfl (by decide +kernel) ⟨by rw [hR]; decide, by rw [hR]; decide⟩) (ti_preV hK hT ha0 rfl rfl) rfl rfl hl.1 rfl (lv_room (Nat.le_of_ble_eq_true rfl)) dX10_joy_26 ⟨Nat.zero_le _, Nat.zero_le _⟩) hS (pW_sub rfl) (fun v26 H1 locs hB hS _ hk26 => ?_)
        obtain ⟨hH, hp26⟩ := hB
        rw [hH] at hS ⊢
        have kl9 : (9 : Int32).toInt = 9 := by decide
        refine lv_imul hx hb dX10_joy_29 ?_
        refine lv_topi (fun v29 e29 => ?_)
        have hv29 : iv v29 (-2147483648) 2147483647 := iv_top _
        refine lv_isub hx hb dX10_joy_30 ?_
        refine lv_topi (fun v30 e30 => ?_)
        have hv30 : iv v30 (-2147483648) 2147483647 := iv_top _
        refine va_mmax hx hb (by rw [hml]; exact hl.1.symm) hown (hts _ kw_617) (hts _ kw_618) (hts _ kw_212) (hts _ kw_619) (by rw [hR]; decide) (by rw [hR]; exact Nat.le_of_ble_eq_true rfl) (Nat.zero_le _) (Nat.zero_le _) dX10_joy_31 ?_
        refine lv_topi (fun v31 e31 => ?_)
        have hv31 : iv v31 0 2147483647 := by rw [e31]; exact iv_max (iv_c (x := (0 : Int32)) (k := 0) (by decide)) hv30 (by decide)
        refine lv_iadd hx hb dX10_joy_34 ?_
        refine lv_topi (fun v34 e34 => ?_)
        have hv34 : iv v34 (-2147483648) 2147483647 := iv_top _
        refine lv_istore_n (lv' := [(3, .int v34), (0, .ref a0), (1, .int x1), (2, .int x2), (4, .int j5_L4)]) hx hb dX10_joy_35 rfl hl (by decide) rfl (fun ls hl => ?_)
        obtain ⟨v36, e36⟩ : ∃ y : Int32, y = j5_L4 + 1 := ⟨_, rfl⟩
        have hv36 : iv v36 1 2147483647 := by rw [e36]; exact iv_w (iv_add hj5_L4_8l (iv_c (x := (1 : Int32)) (k := 1) (by decide)) (by decide)) (by decide)
        have s36 : v36.toInt = j5_L4.toInt + 1 := by rw [e36, iv_addE hj5_L4_8l (iv_c (x := (1 : Int32)) (k := 1) (by decide)) (by decide)]; rfl
        refine lv_iinc (v := v36) (lv' := [(4, .int v36), (3, .int v34), (0, .ref a0), (1, .int x1), (2, .int x2)]) hx hb dX10_joy_36 hl (k := 4) rfl (by rw [e36]; rfl) (by decide) rfl (fun ls hl => ?_)
        refine lv_goto (tgt := 5) hx hb dX10_joy_39 (by decide) ?_
        exact ih5 v34 v36 _ _ (ms_up hms5 (by have := s36; omega) (iv_w (c := 1) (d := 2147483647) hv36 (by decide)).2) (iv_w hv34 (by decide)) (iv_w hv36 (by decide))  hS (lv_sub hl [2, 3, 4, 1, 0] rfl)
  refine lv_istore (lv' := [(4, .int (0 : Int32)), (3, .int (0 : Int32)), (0, .ref a0), (1, .int x1), (2, .int x2)]) hx hb dX10_joy_3 hl (by decide) rfl (fun ls hl => ?_)
  exact J5 _ (0 : Int32) (0 : Int32) _ _ (Nat.lt_succ_self _) (iv_w (iv_c (x := (0 : Int32)) (k := 0) (by decide)) (by decide)) (iv_w (iv_c (x := (0 : Int32)) (k := 0) (by decide)) (by decide))  hS (lv_sub hl [2, 3, 4, 1, 0] rfl)
set_option maxHeartbeats 4000000 in
set_option maxRecDepth 100000 in
theorem t_X10_worked (l : Launch) {D : va_G} {c0 : Nat → ClassId} {Y : Nat → Option Nat} {ν : Nat → Nat} {H : Heap} (hT : TI D vwCl (tysOf c0) (RTg ν) Y H) {a0 : Nat} (ha0 : Y a0 = some 10) {x1 : Int32} (hx1 : iv x1 0 7) {x2 : Int32} (hx2 : iv x2 (-2147483648) 2147483647) (hU : uq Y) : Met l yX10_worked (wz yX10_worked cX10_worked 3 (some .int)) { frames := 1, cells := 0, slots := 0, locals := 60 } (TP D vwCl (tysOf c0) H [.ref a0, .int x1, .int x2]) (TQi (fun x H' => H' = H ∧ iv x (-2147483648) 100000) Y []) 0 0 (pW Y []) := by
  refine Met.ofW (cc := cX10_worked) (maxL := 3) (ret := (some .int)) (by decide) rfl ?_
  intro p e s m args below meth c s₁ B hml hv
  obtain ⟨rfl, rfl, hK⟩ := hv
  have hx := B.exec
  have hb := B.bytes
  have hr := B.returns
  have hts : ∀ w ∈ wq, w.before _ s = true := fun w h => atoms_spec (ws := wz yX10_worked cX10_worked 3 (some .int)) B.pre w (List.mem_cons_of_mem _ h)
  have hown : s.vm.findClass RX10 = some m.cls := findClass_of_methodNamed B.named
  have hlocks := B.notSynchronized
  obtain ⟨R, hR⟩ : ∃ R : Room, R = ({ frames := 1, cells := 0, slots := 0, locals := 60 } : Room) := ⟨_, rfl⟩
  rw [show (headSpec (wz yX10_worked cX10_worked 3 (some .int)) { frames := 1, cells := 0, slots := 0, locals := 60 }).room = R from hR.symm]
  refine ti_mi hx hb hr hlocks (fun Q ret => ?_)
  have hl := lv_entry [.ref a0, .int x1, .int x2] (n := 3) (Nat.le_of_ble_eq_true rfl)
  rw [lg_entry_eq]
  generalize (lg_sl [.ref a0, .int x1, .int x2] ++ List.replicate (3 - (lg_sl [.ref a0, .int x1, .int x2]).length) Slot.unset).toArray = ls at hl ⊢
  have hl : lv_has ls 3 [(0, .ref a0), (1, .int x1), (2, .int x2)] := hl
  have hS : va_S (pW Y []) s.heap s.heap [] := va_S.rf
  refine lv_aload_n hx hb dX10_worked_0 rfl (lv_at hl 0 rfl) ?_
  refine ti_getr hx hb hts inlX10 hown hK hT ha0 rfl rfl rfl 1 (by decide) (hts _ kw_130) (fun _ h9 => h9) rfl dX10_worked_1 (fun v1 hv1 hm1 => ?_)
  refine lv_iconst (v := 1) hx hb dX10_worked_4 (by decide) ?_
  refine ti_iald (lo := (-2147483648)) (hi := 100000) hx hb (aT0 hK) hT hv1 rfl (iv_c (x := (1 : Int32)) (k := 1) (by decide)) (by decide) (one_j 1 rfl rfl (by decide) (by decide)) dX10_worked_5 (fun v5 hv5 hm5 => ?_)
  refine lv_aload_n hx hb dX10_worked_6 rfl (lv_at hl 0 rfl) ?_
  refine lv_iload_n hx hb dX10_worked_7 rfl (lv_at hl 1 rfl) ?_
  refine lv_iconst (v := 0) hx hb dX10_worked_8 (by decide) ?_
  refine ti_calli (va_runV (As := [.int x1, .int (0 : Int32)]) (rest := [.int v5]) ⟨hx, hb, hml, hown, hts⟩ (t_X10_of l hT ha0 (iv_w hx1 (by decide)) (iv_w (iv_c (x := (0 : Int32)) (k := 0) (by decide)) (by decide)) hU) (cwV 2 hts (good_V kw_490 kw_491 kw_492 kw_5 kw_493) rfl rfl rfl (by decide +kernel) ⟨by rw [hR]; decide, by rw [hR]; decide⟩) (ti_preV hK hT ha0 rfl rfl) rfl rfl hl.1 rfl (lv_room (Nat.le_of_ble_eq_true rfl)) dX10_worked_9 ⟨Nat.zero_le _, Nat.zero_le _⟩) hS (pW_sub rfl) (fun v9 H1 locs hB hS _ hk9 => ?_)
  obtain ⟨hH, hp9⟩ := hB
  rw [hH] at hS ⊢
  have kl0 : (0 : Int32).toInt = 0 := by decide
  have hf9 : iv v9 (-2147483648) 100000 := by have b0a := ((iv_top v9)).1; have b0b := ((iv_top v9)).2; exact ⟨by omega, by omega⟩
  refine lv_iload_n hx hb dX10_worked_12 rfl (lv_at hl 2 rfl) ?_
  refine lv_iconst (v := 1) hx hb dX10_worked_13 (by decide) ?_
  have J27 : ∀ (j27_S2 : Int32) (locs : List Loc) (ls : Array Slot), iv j27_S2 (-2147483648) 2147483647 → va_S (pW Y []) s.heap s.heap locs → lv_has ls 3 [(0, .ref a0), (1, .int x1), (2, .int x2)] → W p l e R s m ([.ref a0, .int x1, .int x2] : List Value).toArray below meth c s.heap locs 0 0 Q (F0 m 27 ls [.int j27_S2, .int v9, .int v5]) := by
    intro j27_S2 locs ls hj27_S2 hS hl
    refine lv_iadd hx hb dX10_worked_27 ?_
    refine lv_topi (fun v27 e27 => ?_)
    have hv27 : iv v27 (-2147483648) 2147483647 := iv_top _
    refine va_mmin hx hb (by rw [hml]; exact hl.1.symm) hown (hts _ kw_394) (hts _ kw_211) (hts _ kw_212) (hts _ kw_213) (by rw [hR]; decide) (by rw [hR]; exact Nat.le_of_ble_eq_true rfl) (Nat.zero_le _) (Nat.zero_le _) dX10_worked_28 ?_
    refine lv_topi (fun v28 e28 => ?_)
    have hv28 : iv v28 (-2147483648) 100000 := by rw [e28]; exact iv_min hv5 hv27 (by decide)
    exact ret _ _ _ _ _ dX10_worked_31 (⟨rfl, iv_w hv28 (by decide)⟩) hS
  refine lv_icmp_ne (tgt := 26) hx hb dX10_worked_14 (by decide) (fun c14 => ?_) (fun c14 => ?_)
  · skip
    have kl1 : (1 : Int32).toInt = 1 := by decide
    have f14 := i_ne c14
    refine lv_iconst (v := 0) hx hb dX10_worked_26 (by decide) ?_
    exact J27 (0 : Int32) _ _  (iv_w (iv_c (x := (0 : Int32)) (k := 0) (by decide)) (by decide))  hS (lv_sub hl [0, 1, 2] rfl)
  · skip
    have kl1 : (1 : Int32).toInt = 1 := by decide
    have f14 := i_eq c14
    have hx2_14l : iv x2 1 1 := iv_eql hx2 (iv_c (x := (1 : Int32)) (k := 1) (by decide)) c14 (by decide)
    refine lv_aload_n hx hb dX10_worked_17 rfl (lv_at hl 0 rfl) ?_
    refine lv_iload_n hx hb dX10_worked_18 rfl (lv_at hl 1 rfl) ?_
    refine lv_iconst (v := 5) hx hb dX10_worked_19 (by decide) ?_
    refine ti_calli (va_runV (As := [.int x1, .int (5 : Int32)]) (rest := [.int v9, .int v5]) ⟨hx, hb, hml, hown, hts⟩ (t_X10_of l hT ha0 (iv_w hx1 (by decide)) (iv_w (iv_c (x := (5 : Int32)) (k := 5) (by decide)) (by decide)) hU) (cwV 2 hts (good_V kw_490 kw_491 kw_492 kw_5 kw_493) rfl rfl rfl (by decide +kernel) ⟨by rw [hR]; decide, by rw [hR]; decide⟩) (ti_preV hK hT ha0 rfl rfl) rfl rfl hl.1 rfl (lv_room (Nat.le_of_ble_eq_true rfl)) dX10_worked_20 ⟨Nat.zero_le _, Nat.zero_le _⟩) hS (pW_sub rfl) (fun v20 H1 locs hB hS _ hk20 => ?_)
    obtain ⟨hH, hp20⟩ := hB
    rw [hH] at hS ⊢
    have kl5 : (5 : Int32).toInt = 5 := by decide
    refine lv_goto (tgt := 27) hx hb dX10_worked_23 (by decide) ?_
    exact J27 v20 _ _  (iv_w (iv_top v20) (by decide))  hS (lv_sub hl [0, 1, 2] rfl)
set_option maxHeartbeats 4000000 in
set_option maxRecDepth 100000 in
theorem t_X10_why (l : Launch) {D : va_G} {c0 : Nat → ClassId} {Y : Nat → Option Nat} {ν : Nat → Nat} {H : Heap} (hT : TI D vwCl (tysOf c0) (RTg ν) Y H) {a0 : Nat} (ha0 : Y a0 = some 10) {x1 : Int32} (hx1 : iv x1 (-2147483648) 2147483647) {x2 : Int32} (hx2 : iv x2 (-2147483648) 2147483647) {x3 : Int32} (hx3 : iv x3 (-2147483648) 2147483647) {x4 : Int32} (hx4 : iv x4 (-2147483648) 2147483647) {x5 : Int32} (hx5 : iv x5 (-2147483648) 2147483647) (hU : uq Y) : Met l yX10_why (wz yX10_why cX10_why 7 (some .int)) { frames := 3, cells := 0, slots := 0, locals := 82 } (TP D vwCl (tysOf c0) H [.ref a0, .int x1, .int x2, .int x3, .int x4, .int x5]) (TQi (fun x H' => H' = H ∧ iv x (-5) 0 ∧ ((0 ≤ x.toInt → (0 ≤ x1.toInt ∧ x1.toInt ≤ 7) ∧ ((-1) ≤ x5.toInt ∧ x5.toInt ≤ 7) ∧ (1 ≤ x4.toInt → 0 ≤ x5.toInt)))) Y []) 0 0 (pW Y []) := by
  refine Met.ofW (cc := cX10_why) (maxL := 7) (ret := (some .int)) (by decide) rfl ?_
  intro p e s m args below meth c s₁ B hml hv
  obtain ⟨rfl, rfl, hK⟩ := hv
  have hx := B.exec
  have hb := B.bytes
  have hr := B.returns
  have hts : ∀ w ∈ wq, w.before _ s = true := fun w h => atoms_spec (ws := wz yX10_why cX10_why 7 (some .int)) B.pre w (List.mem_cons_of_mem _ h)
  have hown : s.vm.findClass RX10 = some m.cls := findClass_of_methodNamed B.named
  have hlocks := B.notSynchronized
  obtain ⟨R, hR⟩ : ∃ R : Room, R = ({ frames := 3, cells := 0, slots := 0, locals := 82 } : Room) := ⟨_, rfl⟩
  rw [show (headSpec (wz yX10_why cX10_why 7 (some .int)) { frames := 3, cells := 0, slots := 0, locals := 82 }).room = R from hR.symm]
  refine ti_mi hx hb hr hlocks (fun Q ret => ?_)
  have hl := lv_entry [.ref a0, .int x1, .int x2, .int x3, .int x4, .int x5] (n := 7) (Nat.le_of_ble_eq_true rfl)
  rw [lg_entry_eq]
  generalize (lg_sl [.ref a0, .int x1, .int x2, .int x3, .int x4, .int x5] ++ List.replicate (7 - (lg_sl [.ref a0, .int x1, .int x2, .int x3, .int x4, .int x5]).length) Slot.unset).toArray = ls at hl ⊢
  have hl : lv_has ls 7 [(0, .ref a0), (1, .int x1), (2, .int x2), (3, .int x3), (4, .int x4), (5, .int x5)] := hl
  have hS : va_S (pW Y []) s.heap s.heap [] := va_S.rf
  refine lv_aload_n hx hb dX10_why_0 rfl (lv_at hl 0 rfl) ?_
  refine lv_iload_n hx hb dX10_why_1 rfl (lv_at hl 1 rfl) ?_
  refine ti_calli (va_runV (As := [.int x1]) (rest := []) ⟨hx, hb, hml, hown, hts⟩ (t_X10_isPerson l hT ha0 (iv_w hx1 (by decide)) hU) (cwV 1 hts (good_V kw_486 kw_487 kw_488 kw_5 kw_489) rfl rfl rfl (by decide +kernel) ⟨by rw [hR]; decide, by rw [hR]; decide⟩) (ti_preV hK hT ha0 rfl rfl) rfl rfl hl.1 rfl (lv_room (Nat.le_of_ble_eq_true rfl)) dX10_why_2 ⟨Nat.zero_le _, Nat.zero_le _⟩) hS (pW_sub rfl) (fun v2 H1 locs hB hS _ hk2 => ?_)
  obtain ⟨hH, hv2, hp2⟩ := hB
  rw [hH] at hS ⊢
  have J56 : ∀ (j56_S0 : Int32) (locs : List Loc) (ls : Array Slot), iv j56_S0 0 1 → (1 ≤ j56_S0.toInt → -1 ≤ x5.toInt ∧ x5.toInt ≤ 7) → (1 ≤ j56_S0.toInt → 1 ≤ x4.toInt → 0 ≤ x5.toInt) → (1 ≤ j56_S0.toInt → 0 ≤ x1.toInt ∧ x1.toInt ≤ 7) → va_S (pW Y []) s.heap s.heap locs → lv_has ls 7 [(0, .ref a0), (1, .int x1), (2, .int x2), (3, .int x3), (4, .int x4), (5, .int x5)] → W p l e R s m ([.ref a0, .int x1, .int x2, .int x3, .int x4, .int x5] : List Value).toArray below meth c s.heap locs 0 0 Q (F0 m 56 ls [.int j56_S0]) := by
    intro j56_S0 locs ls hj56_S0 hT56_0 hT56_1 hI56_0 hS hl
    refine lv_istore (lv' := [(6, .int j56_S0), (0, .ref a0), (1, .int x1), (2, .int x2), (3, .int x3), (4, .int x4), (5, .int x5)]) hx hb dX10_why_56 hl (by decide) rfl (fun ls hl => ?_)
    refine lv_iload hx hb dX10_why_58 (lv_at hl 0 rfl) ?_
    refine lv_if_ne (tgt := 68) hx hb dX10_why_60 (by decide) (fun c60 => ?_) (fun c60 => ?_)
    · skip
      have kl0 : (0 : Int32).toInt = 0 := by decide
      have f60 := i_ne c60
      have hj56_S0_60l : iv j56_S0 1 1 := iv_nel hj56_S0 (iv_c (x := (0 : Int32)) (k := 0) (by decide)) c60 (by decide)
      have hq60_8 : iv x1 0 7 := by have := hI56_0; have b0a := (hj56_S0_60l).1; have b0b := (hj56_S0_60l).2; have b1a := (hx1).1; have b1b := (hx1).2; exact ⟨by omega, by omega⟩
      refine lv_iload_n hx hb dX10_why_68 rfl (lv_at hl 4 rfl) ?_
      refine lv_i2l hx hb dX10_why_69 rfl ?_
      refine lv_topl (fun v69 e69 => ?_)
      have hv69 : jv v69 (-2147483648) 2147483647 := by rw [e69]; exact jv_i hx3
      have t69 : v69.toInt = x3.toInt := by rw [e69]; exact jv_e _
      refine lv_iload hx hb dX10_why_70 (lv_at hl 5 rfl) ?_
      refine lv_i2l hx hb dX10_why_72 rfl ?_
      refine lv_topl (fun v72 e72 => ?_)
      have hv72 : jv v72 (-2147483648) 2147483647 := by rw [e72]; exact jv_i hx4
      have t72 : v72.toInt = x4.toInt := by rw [e72]; exact jv_e _
      refine lv_ladd hx hb dX10_why_73 ?_
      refine lv_topl (fun v73 e73 => ?_)
      have s73 : v73.toInt = v69.toInt + v72.toInt := by rw [e73]; exact jv_addE hv69 hv72 (by decide)
      have hv73 : jv v73 (-4294967296) 4294967294 := by have b0a := (hv69).1; have b0b := (hv69).2; have b1a := (hv72).1; have b1b := (hv72).2; exact ⟨by omega, by omega⟩
      refine lv_aload_n hx hb dX10_why_74 rfl (lv_at hl 1 rfl) ?_
      refine lv_iload_n hx hb dX10_why_75 rfl (lv_at hl 2 rfl) ?_
      refine lv_iload_n hx hb dX10_why_76 rfl (lv_at hl 3 rfl) ?_
      refine ti_calli (va_runV (As := [.int x1, .int x2]) (rest := [.long v73]) ⟨hx, hb, hml, hown, hts⟩ (t_X10_worked l hT ha0 (iv_w hq60_8 (by decide)) (iv_w hx2 (by decide)) hU) (cwV 2 hts (good_V kw_783 kw_784 kw_785 kw_5 kw_786) rfl rfl rfl (by decide +kernel) ⟨by rw [hR]; decide, by rw [hR]; decide⟩) (ti_preV hK hT ha0 rfl rfl) rfl rfl hl.1 rfl (lv_room (Nat.le_of_ble_eq_true rfl)) dX10_why_77 ⟨Nat.zero_le _, Nat.zero_le _⟩) hS (pW_sub rfl) (fun v77 H1 locs hB hS _ hk77 => ?_)
      obtain ⟨hH, hv77⟩ := hB
      rw [hH] at hS ⊢
      refine lv_i2l hx hb dX10_why_80 rfl ?_
      refine lv_topl (fun v80 e80 => ?_)
      have hv80 : jv v80 (-2147483648) 100000 := by rw [e80]; exact jv_i hv77
      have t80 : v80.toInt = v77.toInt := by rw [e80]; exact jv_e _
      refine W.lcmp hx hb dX10_why_81 ?_
      refine lv_if_le (tgt := 90) hx hb dX10_why_82 (by decide) (fun c82 => ?_) (fun c82 => ?_)
      · skip
        have f82 := jc_le c82
        have hv73_82a : jv v73 (-4294967296) 100000 := by have b0a := (hv73).1; have b0b := (hv73).2; have b1a := (hv80).1; have b1b := (hv80).2; exact ⟨by omega, by omega⟩
        refine lv_iconst (v := 0) hx hb dX10_why_90 (by decide) ?_
        exact ret _ _ _ _ _ dX10_why_91 (⟨rfl, iv_w (iv_c (x := (0 : Int32)) (k := 0) (by decide)) (by decide), by have b0a := (hq60_8).1; have b0b := (hq60_8).2; have b1a := (hx2).1; have b1b := (hx2).2; have b2a := (hx3).1; have b2b := (hx3).2; have b3a := (hx4).1; have b3b := (hx4).2; have b4a := (hx5).1; have b4b := (hx5).2; have b5a := (hv2).1; have b5b := (hv2).2; have b6a := (hj56_S0_60l).1; have b6b := (hj56_S0_60l).2; have b7a := (hv69).1; have b7b := (hv69).2; have b8a := (hv72).1; have b8b := (hv72).2; have b9a := (hv73_82a).1; have b9b := (hv73_82a).2; have b10a := (hv77).1; have b10b := (hv77).2; have b11a := (hv80).1; have b11b := (hv80).2; omega⟩) hS
      · skip
        have f82 := jc_nle c82
        have hv73_82a : jv v73 (-2147483647) 4294967294 := by have b0a := (hv73).1; have b0b := (hv73).2; have b1a := (hv80).1; have b1b := (hv80).2; exact ⟨by omega, by omega⟩
        refine lv_bipush (v := (-5)) hx hb dX10_why_85 (by decide) ?_
        refine lv_goto (tgt := 91) hx hb dX10_why_87 (by decide) ?_
        have klm5 : (-5 : Int32).toInt = (-5) := by decide
        exact ret _ _ _ _ _ dX10_why_91 (⟨rfl, iv_w (iv_c (x := (-5 : Int32)) (k := (-5)) (by decide)) (by decide), by have b0a := (hq60_8).1; have b0b := (hq60_8).2; have b1a := (hx2).1; have b1b := (hx2).2; have b2a := (hx3).1; have b2b := (hx3).2; have b3a := (hx4).1; have b3b := (hx4).2; have b4a := (hx5).1; have b4b := (hx5).2; have b5a := (hv2).1; have b5b := (hv2).2; have b6a := (hj56_S0_60l).1; have b6b := (hj56_S0_60l).2; have b7a := (hv69).1; have b7b := (hv69).2; have b8a := (hv72).1; have b8b := (hv72).2; have b9a := (hv73_82a).1; have b9b := (hv73_82a).2; have b10a := (hv77).1; have b10b := (hv77).2; have b11a := (hv80).1; have b11b := (hv80).2; omega⟩) hS
    · skip
      have kl0 : (0 : Int32).toInt = 0 := by decide
      have f60 := i_eq c60
      have hj56_S0_60l : iv j56_S0 0 0 := iv_eql hj56_S0 (iv_c (x := (0 : Int32)) (k := 0) (by decide)) c60 (by decide)
      refine lv_bipush (v := (-2)) hx hb dX10_why_63 (by decide) ?_
      refine lv_goto (tgt := 91) hx hb dX10_why_65 (by decide) ?_
      have klm2 : (-2 : Int32).toInt = (-2) := by decide
      exact ret _ _ _ _ _ dX10_why_91 (⟨rfl, iv_w (iv_c (x := (-2 : Int32)) (k := (-2)) (by decide)) (by decide), by have b0a := (hx1).1; have b0b := (hx1).2; have b1a := (hx2).1; have b1b := (hx2).2; have b2a := (hx3).1; have b2b := (hx3).2; have b3a := (hx4).1; have b3b := (hx4).2; have b4a := (hx5).1; have b4b := (hx5).2; have b5a := (hv2).1; have b5b := (hv2).2; have b6a := (hj56_S0_60l).1; have b6b := (hj56_S0_60l).2; omega⟩) hS
  have J55 : ∀  (locs : List Loc) (ls : Array Slot), va_S (pW Y []) s.heap s.heap locs → lv_has ls 7 [(0, .ref a0), (1, .int x1), (2, .int x2), (3, .int x3), (4, .int x4), (5, .int x5)] → W p l e R s m ([.ref a0, .int x1, .int x2, .int x3, .int x4, .int x5] : List Value).toArray below meth c s.heap locs 0 0 Q (F0 m 55 ls []) := by
    intro  locs ls  hS hl
    refine lv_iconst (v := 0) hx hb dX10_why_55 (by decide) ?_
    have kl0 : (0 : Int32).toInt = 0 := by decide
    exact J56 (0 : Int32) _ _  (iv_w (iv_c (x := (0 : Int32)) (k := 0) (by decide)) (by decide)) (by have b0a := (hx1).1; have b0b := (hx1).2; have b1a := (hx2).1; have b1b := (hx2).2; have b2a := (hx3).1; have b2b := (hx3).2; have b3a := (hx4).1; have b3b := (hx4).2; have b4a := (hx5).1; have b4b := (hx5).2; have b5a := (hv2).1; have b5b := (hv2).2; omega) (by have b0a := (hx1).1; have b0b := (hx1).2; have b1a := (hx2).1; have b1b := (hx2).2; have b2a := (hx3).1; have b2b := (hx3).2; have b3a := (hx4).1; have b3b := (hx4).2; have b4a := (hx5).1; have b4b := (hx5).2; have b5a := (hv2).1; have b5b := (hv2).2; omega) (fun h9 => by have b0a := (hx1).1; have b0b := (hx1).2; omega)  hS (lv_sub hl [0, 1, 2, 3, 4, 5] rfl)
  refine lv_if_eq (tgt := 55) hx hb dX10_why_5 (by decide) (fun c5 => ?_) (fun c5 => ?_)
  · skip
    have kl0 : (0 : Int32).toInt = 0 := by decide
    have f5 := i_eq c5
    have hv2_5l : iv v2 0 0 := iv_eql hv2 (iv_c (x := (0 : Int32)) (k := 0) (by decide)) c5 (by decide)
    exact J55  _ _    hS (lv_sub hl [0, 1, 2, 3, 4, 5] rfl)
  · skip
    have kl0 : (0 : Int32).toInt = 0 := by decide
    have f5 := i_ne c5
    have hv2_5l : iv v2 1 1 := iv_nel hv2 (iv_c (x := (0 : Int32)) (k := 0) (by decide)) c5 (by decide)
    have hx1_5p : iv x1 0 7 := by have b0a := (hx1).1; have b0b := (hx1).2; exact ⟨by omega, by omega⟩
    refine lv_iload_n hx hb dX10_why_8 rfl (lv_at hl 2 rfl) ?_
    refine lv_i2l hx hb dX10_why_9 rfl ?_
    refine lv_topl (fun v9 e9 => ?_)
    have hv9 : jv v9 (-2147483648) 2147483647 := by rw [e9]; exact jv_i hx2
    have t9 : v9.toInt = x2.toInt := by rw [e9]; exact jv_e _
    refine lv_lconst (v := 0) hx hb dX10_why_10 (by decide) ?_
    have kj0 : (0 : Int64).toInt = 0 := by decide
    refine lv_lconst (v := 1) hx hb dX10_why_11 (by decide) ?_
    have kj1 : (1 : Int64).toInt = 1 := by decide
    refine ti_calli (va_runS (As := [.long v9, .long (0 : Int64), .long (1 : Int64)]) (rest := []) ⟨hx, hb, hml, hown, hts⟩ (t_X10_in l hT (jv_w hv9 (by decide)) (jv_w (jv_c (x := (0 : Int64)) (k := 0) (by decide)) (by decide)) (jv_w (jv_c (x := (1 : Int64)) (k := 1) (by decide)) (by decide))) (cwS 3 hts (good_S kw_181 kw_182 kw_5 kw_183) rfl rfl rfl (by decide +kernel) ⟨by rw [hR]; decide, by rw [hR]; decide⟩) (ti_preS hK) rfl rfl hl.1 rfl (lv_room (Nat.le_of_ble_eq_true rfl)) dX10_why_12 ⟨Nat.zero_le _, Nat.zero_le _⟩) hS (pW_sub rfl) (fun v12 H1 locs hB hS _ hk12 => ?_)
    obtain ⟨hH, hv12, hp12⟩ := hB
    rw [hH] at hS ⊢
    refine lv_if_eq (tgt := 55) hx hb dX10_why_15 (by decide) (fun c15 => ?_) (fun c15 => ?_)
    · skip
      have f15 := i_eq c15
      have hv12_15l : iv v12 0 0 := iv_eql hv12 (iv_c (x := (0 : Int32)) (k := 0) (by decide)) c15 (by decide)
      exact J55  _ _    hS (lv_sub hl [0, 1, 2, 3, 4, 5] rfl)
    · skip
      have f15 := i_ne c15
      have hv12_15l : iv v12 1 1 := iv_nel hv12 (iv_c (x := (0 : Int32)) (k := 0) (by decide)) c15 (by decide)
      have hv9_15p : jv v9 0 1 := by have b0a := (hv9).1; have b0b := (hv9).2; have b1a := ((jv_c (x := (0 : Int64)) (k := 0) (by decide))).1; have b1b := ((jv_c (x := (0 : Int64)) (k := 0) (by decide))).2; have b2a := ((jv_c (x := (1 : Int64)) (k := 1) (by decide))).1; have b2b := ((jv_c (x := (1 : Int64)) (k := 1) (by decide))).2; exact ⟨by omega, by omega⟩
      have hx2_15p : iv x2 0 1 := by have := t9; have b0a := (hv9_15p).1; have b0b := (hv9_15p).2; have b1a := (hx2).1; have b1b := (hx2).2; exact ⟨by omega, by omega⟩
      refine lv_iload_n hx hb dX10_why_18 rfl (lv_at hl 3 rfl) ?_
      refine lv_if_lt (tgt := 55) hx hb dX10_why_19 (by decide) (fun c19 => ?_) (fun c19 => ?_)
      · skip
        have f19 := i_lt c19
        have hx3_19l : iv x3 (-2147483648) (-1) := iv_ltl hx3 (iv_c (x := (0 : Int32)) (k := 0) (by decide)) c19 (by decide)
        exact J55  _ _    hS (lv_sub hl [0, 1, 2, 3, 4, 5] rfl)
      · skip
        have f19 := i_nlt c19
        have hx3_19r : iv x3 0 2147483647 := iv_ler (iv_c (x := (0 : Int32)) (k := 0) (by decide)) hx3 (Int32.not_lt.mp c19) (by decide)
        refine lv_iload hx hb dX10_why_22 (lv_at hl 4 rfl) ?_
        refine lv_if_lt (tgt := 55) hx hb dX10_why_24 (by decide) (fun c24 => ?_) (fun c24 => ?_)
        · skip
          have f24 := i_lt c24
          have hx4_24l : iv x4 (-2147483648) (-1) := iv_ltl hx4 (iv_c (x := (0 : Int32)) (k := 0) (by decide)) c24 (by decide)
          exact J55  _ _    hS (lv_sub hl [0, 1, 2, 3, 4, 5] rfl)
        · skip
          have f24 := i_nlt c24
          have hx4_24r : iv x4 0 2147483647 := iv_ler (iv_c (x := (0 : Int32)) (k := 0) (by decide)) hx4 (Int32.not_lt.mp c24) (by decide)
          refine lv_iload hx hb dX10_why_27 (lv_at hl 4 rfl) ?_
          have J51 : ∀  (locs : List Loc) (ls : Array Slot), (-1 ≤ x5.toInt ∧ x5.toInt ≤ 7) → (1 ≤ x4.toInt → 0 ≤ x5.toInt) → va_S (pW Y []) s.heap s.heap locs → lv_has ls 7 [(0, .ref a0), (1, .int x1), (2, .int x2), (3, .int x3), (4, .int x4), (5, .int x5)] → W p l e R s m ([.ref a0, .int x1, .int x2, .int x3, .int x4, .int x5] : List Value).toArray below meth c s.heap locs 0 0 Q (F0 m 51 ls []) := by
            intro  locs ls hT51_0 hT51_1 hS hl
            refine lv_iconst (v := 1) hx hb dX10_why_51 (by decide) ?_
            refine lv_goto (tgt := 56) hx hb dX10_why_52 (by decide) ?_
            have kl1 : (1 : Int32).toInt = 1 := by decide
            exact J56 (1 : Int32) _ _  (iv_w (iv_c (x := (1 : Int32)) (k := 1) (by decide)) (by decide)) (by have b0a := (hx1_5p).1; have b0b := (hx1_5p).2; have b1a := (hx2_15p).1; have b1b := (hx2_15p).2; have b2a := (hx3_19r).1; have b2b := (hx3_19r).2; have b3a := (hx4_24r).1; have b3b := (hx4_24r).2; have b4a := (hx5).1; have b4b := (hx5).2; have b5a := (hv2_5l).1; have b5b := (hv2_5l).2; have b6a := (hv9_15p).1; have b6b := (hv9_15p).2; have b7a := (hv12_15l).1; have b7b := (hv12_15l).2; omega) (by have b0a := (hx1_5p).1; have b0b := (hx1_5p).2; have b1a := (hx2_15p).1; have b1b := (hx2_15p).2; have b2a := (hx3_19r).1; have b2b := (hx3_19r).2; have b3a := (hx4_24r).1; have b3b := (hx4_24r).2; have b4a := (hx5).1; have b4b := (hx5).2; have b5a := (hv2_5l).1; have b5b := (hv2_5l).2; have b6a := (hv9_15p).1; have b6b := (hv9_15p).2; have b7a := (hv12_15l).1; have b7b := (hv12_15l).2; omega) (fun h9 => by have b0a := (hx1_5p).1; have b0b := (hx1_5p).2; omega)  hS (lv_sub hl [0, 1, 2, 3, 4, 5] rfl)
          refine lv_if_ne (tgt := 41) hx hb dX10_why_29 (by decide) (fun c29 => ?_) (fun c29 => ?_)
          · skip
            have f29 := i_ne c29
            have hx4_29l : iv x4 1 2147483647 := iv_nel hx4_24r (iv_c (x := (0 : Int32)) (k := 0) (by decide)) c29 (by decide)
            refine lv_aload_n hx hb dX10_why_41 rfl (lv_at hl 0 rfl) ?_
            refine lv_iload_n hx hb dX10_why_42 rfl (lv_at hl 1 rfl) ?_
            refine lv_iload hx hb dX10_why_43 (lv_at hl 5 rfl) ?_
            refine ti_calli (va_runV (As := [.int x1, .int x5]) (rest := []) ⟨hx, hb, hml, hown, hts⟩ (t_X10_areTwo l hT ha0 (iv_w hx1_5p (by decide)) (iv_w hx5 (by decide)) hU) (cwV 2 hts (good_V kw_545 kw_546 kw_547 kw_5 kw_548) rfl rfl rfl (by decide +kernel) ⟨by rw [hR]; decide, by rw [hR]; decide⟩) (ti_preV hK hT ha0 rfl rfl) rfl rfl hl.1 rfl (lv_room (Nat.le_of_ble_eq_true rfl)) dX10_why_45 ⟨Nat.zero_le _, Nat.zero_le _⟩) hS (pW_sub rfl) (fun v45 H1 locs hB hS _ hk45 => ?_)
            obtain ⟨hH, hv45, hp45⟩ := hB
            rw [hH] at hS ⊢
            refine lv_if_eq (tgt := 55) hx hb dX10_why_48 (by decide) (fun c48 => ?_) (fun c48 => ?_)
            · skip
              have f48 := i_eq c48
              have hv45_48l : iv v45 0 0 := iv_eql hv45 (iv_c (x := (0 : Int32)) (k := 0) (by decide)) c48 (by decide)
              exact J55  _ _    hS (lv_sub hl [0, 1, 2, 3, 4, 5] rfl)
            · skip
              have f48 := i_ne c48
              have hv45_48l : iv v45 1 1 := iv_nel hv45 (iv_c (x := (0 : Int32)) (k := 0) (by decide)) c48 (by decide)
              have hx5_48p : iv x5 0 7 := by have b0a := (hx5).1; have b0b := (hx5).2; exact ⟨by omega, by omega⟩
              exact J51  _ _  (by have b0a := (hx1_5p).1; have b0b := (hx1_5p).2; have b1a := (hx2_15p).1; have b1b := (hx2_15p).2; have b2a := (hx3_19r).1; have b2b := (hx3_19r).2; have b3a := (hx4_29l).1; have b3b := (hx4_29l).2; have b4a := (hx5_48p).1; have b4b := (hx5_48p).2; have b5a := (hv2_5l).1; have b5b := (hv2_5l).2; have b6a := (hv9_15p).1; have b6b := (hv9_15p).2; have b7a := (hv12_15l).1; have b7b := (hv12_15l).2; have b8a := (hv45_48l).1; have b8b := (hv45_48l).2; omega) (by have b0a := (hx1_5p).1; have b0b := (hx1_5p).2; have b1a := (hx2_15p).1; have b1b := (hx2_15p).2; have b2a := (hx3_19r).1; have b2b := (hx3_19r).2; have b3a := (hx4_29l).1; have b3b := (hx4_29l).2; have b4a := (hx5_48p).1; have b4b := (hx5_48p).2; have b5a := (hv2_5l).1; have b5b := (hv2_5l).2; have b6a := (hv9_15p).1; have b6b := (hv9_15p).2; have b7a := (hv12_15l).1; have b7b := (hv12_15l).2; have b8a := (hv45_48l).1; have b8b := (hv45_48l).2; omega)  hS (lv_sub hl [0, 1, 2, 3, 4, 5] rfl)
          · skip
            have f29 := i_eq c29
            have hx4_29l : iv x4 0 0 := iv_eql hx4_24r (iv_c (x := (0 : Int32)) (k := 0) (by decide)) c29 (by decide)
            refine lv_iload hx hb dX10_why_32 (lv_at hl 5 rfl) ?_
            refine lv_iconst (v := (-1)) hx hb dX10_why_34 (by decide) ?_
            refine lv_icmp_ne (tgt := 55) hx hb dX10_why_35 (by decide) (fun c35 => ?_) (fun c35 => ?_)
            · skip
              have klm1 : (-1 : Int32).toInt = (-1) := by decide
              have f35 := i_ne c35
              exact J55  _ _    hS (lv_sub hl [0, 1, 2, 3, 4, 5] rfl)
            · skip
              have klm1 : (-1 : Int32).toInt = (-1) := by decide
              have f35 := i_eq c35
              have hx5_35l : iv x5 (-1) (-1) := iv_eql hx5 (iv_c (x := (-1 : Int32)) (k := (-1)) (by decide)) c35 (by decide)
              refine lv_goto (tgt := 51) hx hb dX10_why_38 (by decide) ?_
              exact J51  _ _  (by have b0a := (hx1_5p).1; have b0b := (hx1_5p).2; have b1a := (hx2_15p).1; have b1b := (hx2_15p).2; have b2a := (hx3_19r).1; have b2b := (hx3_19r).2; have b3a := (hx4_29l).1; have b3b := (hx4_29l).2; have b4a := (hx5_35l).1; have b4b := (hx5_35l).2; have b5a := (hv2_5l).1; have b5b := (hv2_5l).2; have b6a := (hv9_15p).1; have b6b := (hv9_15p).2; have b7a := (hv12_15l).1; have b7b := (hv12_15l).2; omega) (by have b0a := (hx1_5p).1; have b0b := (hx1_5p).2; have b1a := (hx2_15p).1; have b1b := (hx2_15p).2; have b2a := (hx3_19r).1; have b2b := (hx3_19r).2; have b3a := (hx4_29l).1; have b3b := (hx4_29l).2; have b4a := (hx5_35l).1; have b4b := (hx5_35l).2; have b5a := (hv2_5l).1; have b5b := (hv2_5l).2; have b6a := (hv9_15p).1; have b6b := (hv9_15p).2; have b7a := (hv12_15l).1; have b7b := (hv12_15l).2; omega)  hS (lv_sub hl [0, 1, 2, 3, 4, 5] rfl)
set_option maxHeartbeats 4000000 in
set_option maxRecDepth 100000 in
theorem t_X10_acts (l : Launch) {D : va_G} {c0 : Nat → ClassId} {Y : Nat → Option Nat} {ν : Nat → Nat} {H : Heap} (hT : TI D vwCl (tysOf c0) (RTg ν) Y H) {a0 : Nat} (ha0 : Y a0 = some 10) {x1 : Int32} (hx1 : iv x1 0 7) {x2 : Int32} (hx2 : iv x2 (-2147483648) 2147483647) {x3 : Int32} (hx3 : iv x3 (-2147483648) 2147483647) {x4 : Int32} (hx4 : iv x4 (-2147483648) 2147483647) {x5 : Int32} (hx5 : iv x5 (-1) 7) (hi0 : 1 ≤ x4.toInt → 0 ≤ x5.toInt) (hU : uq Y) : Met l yX10_acts (wz yX10_acts cX10_acts 6 none) { frames := 2, cells := 0, slots := 0, locals := 82 } (TP D vwCl (tysOf c0) H [.ref a0, .int x1, .int x2, .int x3, .int x4, .int x5]) (TQv (fun H' => TI D vwCl (tysOf c0) (RTg ν) Y H') Y [30]) 0 0 (pW Y [30]) := by
  refine Met.ofW (cc := cX10_acts) (maxL := 6) (ret := none) (by decide) rfl ?_
  intro p e s m args below meth c s₁ B hml hv
  obtain ⟨rfl, rfl, hK⟩ := hv
  have hx := B.exec
  have hb := B.bytes
  have hr := B.returns
  have hts : ∀ w ∈ wq, w.before _ s = true := fun w h => atoms_spec (ws := wz yX10_acts cX10_acts 6 none) B.pre w (List.mem_cons_of_mem _ h)
  have hown : s.vm.findClass RX10 = some m.cls := findClass_of_methodNamed B.named
  have hlocks := B.notSynchronized
  obtain ⟨R, hR⟩ : ∃ R : Room, R = ({ frames := 2, cells := 0, slots := 0, locals := 82 } : Room) := ⟨_, rfl⟩
  rw [show (headSpec (wz yX10_acts cX10_acts 6 none) { frames := 2, cells := 0, slots := 0, locals := 82 }).room = R from hR.symm]
  refine ti_mv hx hb hr hlocks (fun Q ret => ?_)
  have hl := lv_entry [.ref a0, .int x1, .int x2, .int x3, .int x4, .int x5] (n := 6) (Nat.le_of_ble_eq_true rfl)
  rw [lg_entry_eq]
  generalize (lg_sl [.ref a0, .int x1, .int x2, .int x3, .int x4, .int x5] ++ List.replicate (6 - (lg_sl [.ref a0, .int x1, .int x2, .int x3, .int x4, .int x5]).length) Slot.unset).toArray = ls at hl ⊢
  have hl : lv_has ls 6 [(0, .ref a0), (1, .int x1), (2, .int x2), (3, .int x3), (4, .int x4), (5, .int x5)] := hl
  refine ti_gen (P := fun H => TI D vwCl (tysOf c0) (RTg ν) Y H) (Y := Y) (ws := [30]) hT (fun H locs hT hS => ?_)
  refine lv_aload_n hx hb dX10_acts_0 rfl (lv_at hl 0 rfl) ?_
  refine lv_iload_n hx hb dX10_acts_1 rfl (lv_at hl 1 rfl) ?_
  refine lv_aload_n hx hb dX10_acts_2 rfl (lv_at hl 0 rfl) ?_
  refine lv_iload_n hx hb dX10_acts_3 rfl (lv_at hl 1 rfl) ?_
  refine lv_iload_n hx hb dX10_acts_4 rfl (lv_at hl 2 rfl) ?_
  refine ti_calli (va_runV (As := [.int x1, .int x2]) (rest := [.int x1, .ref a0]) ⟨hx, hb, hml, hown, hts⟩ (t_X10_worked l hT ha0 (iv_w hx1 (by decide)) (iv_w hx2 (by decide)) hU) (cwV 2 hts (good_V kw_783 kw_784 kw_785 kw_5 kw_786) rfl rfl rfl (by decide +kernel) ⟨by rw [hR]; decide, by rw [hR]; decide⟩) (ti_preV hK hT ha0 rfl rfl) rfl rfl hl.1 rfl (lv_room (Nat.le_of_ble_eq_true rfl)) dX10_acts_5 ⟨Nat.zero_le _, Nat.zero_le _⟩) hS (pW_sub rfl) (fun v5 H1 locs hB hS _ hk5 => ?_)
  obtain ⟨hH, hv5⟩ := hB
  rw [hH] at hS ⊢
  refine ti_callv (va_runV (As := [.int x1, .int v5]) (rest := []) ⟨hx, hb, hml, hown, hts⟩ (t_X10_has l hT ha0 (iv_w hx1 (by decide)) (iv_w hv5 (by decide)) hU) (cwV 2 hts (good_V kw_507 kw_508 kw_509 kw_5 kw_510) rfl rfl rfl (by decide +kernel) ⟨by rw [hR]; decide, by rw [hR]; decide⟩) (ti_preV hK hT ha0 rfl rfl) rfl rfl hl.1 rfl (lv_room (Nat.le_of_ble_eq_true rfl)) dX10_acts_8 ⟨Nat.zero_le _, Nat.zero_le _⟩) hS (pW_sub rfl) (fun H locs hB hS _ hk8 => ?_)
  obtain ⟨hT, hp8⟩ := hB
  refine lv_aload_n hx hb dX10_acts_11 rfl (lv_at hl 0 rfl) ?_
  refine lv_iload_n hx hb dX10_acts_12 rfl (lv_at hl 1 rfl) ?_
  refine lv_aload_n hx hb dX10_acts_13 rfl (lv_at hl 0 rfl) ?_
  refine lv_iload_n hx hb dX10_acts_14 rfl (lv_at hl 1 rfl) ?_
  refine lv_iconst (v := 0) hx hb dX10_acts_15 (by decide) ?_
  refine ti_calli (va_runV (As := [.int x1, .int (0 : Int32)]) (rest := [.int x1, .ref a0]) ⟨hx, hb, hml, hown, hts⟩ (t_X10_of l hT ha0 (iv_w hx1 (by decide)) (iv_w (iv_c (x := (0 : Int32)) (k := 0) (by decide)) (by decide)) hU) (cwV 2 hts (good_V kw_490 kw_491 kw_492 kw_5 kw_493) rfl rfl rfl (by decide +kernel) ⟨by rw [hR]; decide, by rw [hR]; decide⟩) (ti_preV hK hT ha0 rfl rfl) rfl rfl hl.1 rfl (lv_room (Nat.le_of_ble_eq_true rfl)) dX10_acts_16 ⟨Nat.zero_le _, Nat.zero_le _⟩) hS (pW_sub rfl) (fun v16 H1 locs hB hS _ hk16 => ?_)
  obtain ⟨hH, hp16⟩ := hB
  rw [hH] at hS ⊢
  have kl0 : (0 : Int32).toInt = 0 := by decide
  have hf16 : iv v16 (-2147483648) 100000 := by have b0a := ((iv_top v16)).1; have b0b := ((iv_top v16)).2; exact ⟨by omega, by omega⟩
  refine lv_iload_n hx hb dX10_acts_19 rfl (lv_at hl 3 rfl) ?_
  refine lv_isub hx hb dX10_acts_20 ?_
  refine lv_topi (fun v20 e20 => ?_)
  have hv20 : iv v20 (-2147483648) 2147483647 := iv_top _
  refine lv_iload hx hb dX10_acts_21 (lv_at hl 4 rfl) ?_
  refine lv_isub hx hb dX10_acts_23 ?_
  refine lv_topi (fun v23 e23 => ?_)
  have hv23 : iv v23 (-2147483648) 2147483647 := iv_top _
  refine ti_callv (va_runV (As := [.int x1, .int v23]) (rest := []) ⟨hx, hb, hml, hown, hts⟩ (t_X10_has l hT ha0 (iv_w hx1 (by decide)) (iv_w hv23 (by decide)) hU) (cwV 2 hts (good_V kw_507 kw_508 kw_509 kw_5 kw_510) rfl rfl rfl (by decide +kernel) ⟨by rw [hR]; decide, by rw [hR]; decide⟩) (ti_preV hK hT ha0 rfl rfl) rfl rfl hl.1 rfl (lv_room (Nat.le_of_ble_eq_true rfl)) dX10_acts_24 ⟨Nat.zero_le _, Nat.zero_le _⟩) hS (pW_sub rfl) (fun H locs hB hS _ hk24 => ?_)
  obtain ⟨hT, hp24⟩ := hB
  refine lv_iload hx hb dX10_acts_27 (lv_at hl 4 rfl) ?_
  refine lv_if_le (tgt := 48) hx hb dX10_acts_29 (by decide) (fun c29 => ?_) (fun c29 => ?_)
  · skip
    have f29 := i_le c29
    have hx4_29l : iv x4 (-2147483648) 0 := iv_lel hx4 (iv_c (x := (0 : Int32)) (k := 0) (by decide)) c29 (by decide)
    exact ret _ _ _ _ dX10_acts_48 (hT) hS
  · skip
    have f29 := i_nle c29
    have hx4_29r : iv x4 1 2147483647 := iv_ltr (iv_c (x := (0 : Int32)) (k := 0) (by decide)) hx4 (Int32.not_le.mp c29) (by decide)
    have hq29_8 : iv x5 0 7 := by have := hi0; have b0a := (hx4_29r).1; have b0b := (hx4_29r).2; have b1a := (hx5).1; have b1b := (hx5).2; exact ⟨by omega, by omega⟩
    refine lv_aload_n hx hb dX10_acts_32 rfl (lv_at hl 0 rfl) ?_
    refine lv_iload hx hb dX10_acts_33 (lv_at hl 5 rfl) ?_
    refine lv_aload_n hx hb dX10_acts_35 rfl (lv_at hl 0 rfl) ?_
    refine lv_iload hx hb dX10_acts_36 (lv_at hl 5 rfl) ?_
    refine lv_iconst (v := 0) hx hb dX10_acts_38 (by decide) ?_
    refine ti_calli (va_runV (As := [.int x5, .int (0 : Int32)]) (rest := [.int x5, .ref a0]) ⟨hx, hb, hml, hown, hts⟩ (t_X10_of l hT ha0 (iv_w hq29_8 (by decide)) (iv_w (iv_c (x := (0 : Int32)) (k := 0) (by decide)) (by decide)) hU) (cwV 2 hts (good_V kw_490 kw_491 kw_492 kw_5 kw_493) rfl rfl rfl (by decide +kernel) ⟨by rw [hR]; decide, by rw [hR]; decide⟩) (ti_preV hK hT ha0 rfl rfl) rfl rfl hl.1 rfl (lv_room (Nat.le_of_ble_eq_true rfl)) dX10_acts_39 ⟨Nat.zero_le _, Nat.zero_le _⟩) hS (pW_sub rfl) (fun v39 H1 locs hB hS _ hk39 => ?_)
    obtain ⟨hH, hp39⟩ := hB
    rw [hH] at hS ⊢
    have hf39 : iv v39 (-2147483648) 100000 := by have b0a := ((iv_top v39)).1; have b0b := ((iv_top v39)).2; exact ⟨by omega, by omega⟩
    refine lv_iload hx hb dX10_acts_42 (lv_at hl 4 rfl) ?_
    refine lv_iadd hx hb dX10_acts_44 ?_
    refine lv_topi (fun v44 e44 => ?_)
    have hv44 : iv v44 (-2147483648) 2147483647 := iv_top _
    refine ti_callv (va_runV (As := [.int x5, .int v44]) (rest := []) ⟨hx, hb, hml, hown, hts⟩ (t_X10_has l hT ha0 (iv_w hq29_8 (by decide)) (iv_w hv44 (by decide)) hU) (cwV 2 hts (good_V kw_507 kw_508 kw_509 kw_5 kw_510) rfl rfl rfl (by decide +kernel) ⟨by rw [hR]; decide, by rw [hR]; decide⟩) (ti_preV hK hT ha0 rfl rfl) rfl rfl hl.1 rfl (lv_room (Nat.le_of_ble_eq_true rfl)) dX10_acts_45 ⟨Nat.zero_le _, Nat.zero_le _⟩) hS (pW_sub rfl) (fun H locs hB hS _ hk45 => ?_)
    obtain ⟨hT, hp45⟩ := hB
    exact ret _ _ _ _ dX10_acts_48 (hT) hS
set_option maxHeartbeats 4000000 in
set_option maxRecDepth 100000 in
theorem t_X10_act (l : Launch) {D : va_G} {c0 : Nat → ClassId} {Y : Nat → Option Nat} {ν : Nat → Nat} {H : Heap} (hT : TI D vwCl (tysOf c0) (RTg ν) Y H) {a0 : Nat} (ha0 : Y a0 = some 10) {x1 : Int32} (hx1 : iv x1 (-2147483648) 2147483647) {x2 : Int32} (hx2 : iv x2 (-2147483648) 2147483647) {x3 : Int32} (hx3 : iv x3 (-2147483648) 2147483647) {x4 : Int32} (hx4 : iv x4 (-2147483648) 2147483647) {x5 : Int32} (hx5 : iv x5 (-2147483648) 2147483647) (hU : uq Y) : Met l yX10_act (wz yX10_act cX10_act 7 (some .int)) { frames := 4, cells := 0, slots := 0, locals := 108 } (TP D vwCl (tysOf c0) H [.ref a0, .int x1, .int x2, .int x3, .int x4, .int x5]) (TQi (fun x H' => TI D vwCl (tysOf c0) (RTg ν) Y H' ∧ iv x (-2147483648) 100000) Y [30]) 0 0 (pW Y [30]) := by
  refine Met.ofW (cc := cX10_act) (maxL := 7) (ret := (some .int)) (by decide) rfl ?_
  intro p e s m args below meth c s₁ B hml hv
  obtain ⟨rfl, rfl, hK⟩ := hv
  have hx := B.exec
  have hb := B.bytes
  have hr := B.returns
  have hts : ∀ w ∈ wq, w.before _ s = true := fun w h => atoms_spec (ws := wz yX10_act cX10_act 7 (some .int)) B.pre w (List.mem_cons_of_mem _ h)
  have hown : s.vm.findClass RX10 = some m.cls := findClass_of_methodNamed B.named
  have hlocks := B.notSynchronized
  obtain ⟨R, hR⟩ : ∃ R : Room, R = ({ frames := 4, cells := 0, slots := 0, locals := 108 } : Room) := ⟨_, rfl⟩
  rw [show (headSpec (wz yX10_act cX10_act 7 (some .int)) { frames := 4, cells := 0, slots := 0, locals := 108 }).room = R from hR.symm]
  refine ti_mi hx hb hr hlocks (fun Q ret => ?_)
  have hl := lv_entry [.ref a0, .int x1, .int x2, .int x3, .int x4, .int x5] (n := 7) (Nat.le_of_ble_eq_true rfl)
  rw [lg_entry_eq]
  generalize (lg_sl [.ref a0, .int x1, .int x2, .int x3, .int x4, .int x5] ++ List.replicate (7 - (lg_sl [.ref a0, .int x1, .int x2, .int x3, .int x4, .int x5]).length) Slot.unset).toArray = ls at hl ⊢
  have hl : lv_has ls 7 [(0, .ref a0), (1, .int x1), (2, .int x2), (3, .int x3), (4, .int x4), (5, .int x5)] := hl
  refine ti_gen (P := fun H => TI D vwCl (tysOf c0) (RTg ν) Y H) (Y := Y) (ws := [30]) hT (fun H locs hT hS => ?_)
  refine lv_aload_n hx hb dX10_act_0 rfl (lv_at hl 0 rfl) ?_
  refine lv_iload_n hx hb dX10_act_1 rfl (lv_at hl 1 rfl) ?_
  refine lv_iload_n hx hb dX10_act_2 rfl (lv_at hl 2 rfl) ?_
  refine lv_iload_n hx hb dX10_act_3 rfl (lv_at hl 3 rfl) ?_
  refine lv_iload hx hb dX10_act_4 (lv_at hl 4 rfl) ?_
  refine lv_iload hx hb dX10_act_6 (lv_at hl 5 rfl) ?_
  refine ti_calli (va_runV (As := [.int x1, .int x2, .int x3, .int x4, .int x5]) (rest := []) ⟨hx, hb, hml, hown, hts⟩ (t_X10_why l hT ha0 (iv_w hx1 (by decide)) (iv_w hx2 (by decide)) (iv_w hx3 (by decide)) (iv_w hx4 (by decide)) (iv_w hx5 (by decide)) hU) (cwV 5 hts (good_V kw_779 kw_780 kw_781 kw_5 kw_782) rfl rfl rfl (by decide +kernel) ⟨by rw [hR]; decide, by rw [hR]; decide⟩) (ti_preV hK hT ha0 rfl rfl) rfl rfl hl.1 rfl (lv_room (Nat.le_of_ble_eq_true rfl)) dX10_act_8 ⟨Nat.zero_le _, Nat.zero_le _⟩) hS (pW_sub rfl) (fun v8 H1 locs hB hS _ hk8 => ?_)
  obtain ⟨hH, hv8, hp8⟩ := hB
  rw [hH] at hS ⊢
  refine lv_istore (lv' := [(6, .int v8), (0, .ref a0), (1, .int x1), (2, .int x2), (3, .int x3), (4, .int x4), (5, .int x5)]) hx hb dX10_act_11 hl (by decide) rfl (fun ls hl => ?_)
  refine lv_iload hx hb dX10_act_13 (lv_at hl 0 rfl) ?_
  refine lv_if_ge (tgt := 21) hx hb dX10_act_15 (by decide) (fun c15 => ?_) (fun c15 => ?_)
  · skip
    have kl0 : (0 : Int32).toInt = 0 := by decide
    have f15 := i_le c15
    have hv8_15r : iv v8 0 0 := iv_ler (iv_c (x := (0 : Int32)) (k := 0) (by decide)) hv8 c15 (by decide)
    have hx1_15p : iv x1 0 7 := by have b0a := (hx1).1; have b0b := (hx1).2; exact ⟨by omega, by omega⟩
    have hx5_15p : iv x5 (-1) 7 := by have b0a := (hx5).1; have b0b := (hx5).2; exact ⟨by omega, by omega⟩
    refine lv_aload_n hx hb dX10_act_21 rfl (lv_at hl 1 rfl) ?_
    refine lv_iload_n hx hb dX10_act_22 rfl (lv_at hl 2 rfl) ?_
    refine lv_iload_n hx hb dX10_act_23 rfl (lv_at hl 3 rfl) ?_
    refine lv_iload_n hx hb dX10_act_24 rfl (lv_at hl 4 rfl) ?_
    refine lv_iload hx hb dX10_act_25 (lv_at hl 5 rfl) ?_
    refine lv_iload hx hb dX10_act_27 (lv_at hl 6 rfl) ?_
    refine ti_callv (va_runV (As := [.int x1, .int x2, .int x3, .int x4, .int x5]) (rest := []) ⟨hx, hb, hml, hown, hts⟩ (t_X10_acts l hT ha0 (iv_w hx1_15p (by decide)) (iv_w hx2 (by decide)) (iv_w hx3 (by decide)) (iv_w hx4 (by decide)) (iv_w hx5_15p (by decide)) (fun h9 => by have b0a := (hx4).1; have b0b := (hx4).2; have b1a := (hx5_15p).1; have b1b := (hx5_15p).2; omega) hU) (cwV 5 hts (good_V kw_787 kw_788 kw_789 kw_5 kw_790) rfl rfl rfl (by decide +kernel) ⟨by rw [hR]; decide, by rw [hR]; decide⟩) (ti_preV hK hT ha0 rfl rfl) rfl rfl hl.1 rfl (lv_room (Nat.le_of_ble_eq_true rfl)) dX10_act_29 ⟨Nat.zero_le _, Nat.zero_le _⟩) hS (pW_sub rfl) (fun H locs hB hS _ hk29 => ?_)
    have hT := hB
    refine lv_aload_n hx hb dX10_act_32 rfl (lv_at hl 1 rfl) ?_
    refine lv_iload_n hx hb dX10_act_33 rfl (lv_at hl 2 rfl) ?_
    refine lv_iconst (v := 4) hx hb dX10_act_34 (by decide) ?_
    refine lv_aload_n hx hb dX10_act_35 rfl (lv_at hl 1 rfl) ?_
    refine lv_iload_n hx hb dX10_act_36 rfl (lv_at hl 2 rfl) ?_
    refine lv_iconst (v := 4) hx hb dX10_act_37 (by decide) ?_
    refine ti_calli (va_runV (As := [.int x1, .int (4 : Int32)]) (rest := [.int (4 : Int32), .int x1, .ref a0]) ⟨hx, hb, hml, hown, hts⟩ (t_X10_of l hT ha0 (iv_w hx1_15p (by decide)) (iv_w (iv_c (x := (4 : Int32)) (k := 4) (by decide)) (by decide)) hU) (cwV 2 hts (good_V kw_490 kw_491 kw_492 kw_5 kw_493) rfl rfl rfl (by decide +kernel) ⟨by rw [hR]; decide, by rw [hR]; decide⟩) (ti_preV hK hT ha0 rfl rfl) rfl rfl hl.1 rfl (lv_room (Nat.le_of_ble_eq_true rfl)) dX10_act_38 ⟨Nat.zero_le _, Nat.zero_le _⟩) hS (pW_sub rfl) (fun v38 H1 locs hB hS _ hk38 => ?_)
    obtain ⟨hH, hp38⟩ := hB
    rw [hH] at hS ⊢
    have kl4 : (4 : Int32).toInt = 4 := by decide
    refine lv_aload_n hx hb dX10_act_41 rfl (lv_at hl 1 rfl) ?_
    refine lv_iload_n hx hb dX10_act_42 rfl (lv_at hl 2 rfl) ?_
    refine lv_iload_n hx hb dX10_act_43 rfl (lv_at hl 4 rfl) ?_
    refine ti_calli (va_runV (As := [.int x1, .int x3]) (rest := [.int v38, .int (4 : Int32), .int x1, .ref a0]) ⟨hx, hb, hml, hown, hts⟩ (t_X10_joy l hT ha0 (iv_w hx1_15p (by decide)) (iv_w hx3 (by decide)) hU) (cwV 2 hts (good_V kw_791 kw_792 kw_793 kw_5 kw_794) rfl rfl rfl (by decide +kernel) ⟨by rw [hR]; decide, by rw [hR]; decide⟩) (ti_preV hK hT ha0 rfl rfl) rfl rfl hl.1 rfl (lv_room (Nat.le_of_ble_eq_true rfl)) dX10_act_44 ⟨Nat.zero_le _, Nat.zero_le _⟩) hS (pW_sub rfl) (fun v44 H1 locs hB hS _ hk44 => ?_)
    have hH := hB
    rw [hH] at hS ⊢
    refine lv_iadd hx hb dX10_act_47 ?_
    refine lv_topi (fun v47 e47 => ?_)
    have hv47 : iv v47 (-2147483648) 2147483647 := iv_top _
    refine lv_iload_n hx hb dX10_act_48 rfl (lv_at hl 3 rfl) ?_
    refine lv_aload_n hx hb dX10_act_49 rfl (lv_at hl 1 rfl) ?_
    refine lv_iload_n hx hb dX10_act_50 rfl (lv_at hl 2 rfl) ?_
    refine lv_bipush (v := 6) hx hb dX10_act_51 (by decide) ?_
    refine ti_calli (va_runV (As := [.int x1, .int (6 : Int32)]) (rest := [.int x2, .int v47, .int (4 : Int32), .int x1, .ref a0]) ⟨hx, hb, hml, hown, hts⟩ (t_X10_of l hT ha0 (iv_w hx1_15p (by decide)) (iv_w (iv_c (x := (6 : Int32)) (k := 6) (by decide)) (by decide)) hU) (cwV 2 hts (good_V kw_490 kw_491 kw_492 kw_5 kw_493) rfl rfl rfl (by decide +kernel) ⟨by rw [hR]; decide, by rw [hR]; decide⟩) (ti_preV hK hT ha0 rfl rfl) rfl rfl hl.1 rfl (lv_room (Nat.le_of_ble_eq_true rfl)) dX10_act_53 ⟨Nat.zero_le _, Nat.zero_le _⟩) hS (pW_sub rfl) (fun v53 H1 locs hB hS _ hk53 => ?_)
    obtain ⟨hH, hp53⟩ := hB
    rw [hH] at hS ⊢
    have kl6 : (6 : Int32).toInt = 6 := by decide
    refine lv_imul hx hb dX10_act_56 ?_
    refine lv_topi (fun v56 e56 => ?_)
    have hv56 : iv v56 (-2147483648) 2147483647 := iv_top _
    refine lv_isub hx hb dX10_act_57 ?_
    refine lv_topi (fun v57 e57 => ?_)
    have hv57 : iv v57 (-2147483648) 2147483647 := iv_top _
    refine ti_callv (va_runV (As := [.int x1, .int (4 : Int32), .int v57]) (rest := []) ⟨hx, hb, hml, hown, hts⟩ (t_X10_set l hT ha0 (iv_w hx1_15p (by decide)) (iv_w (iv_c (x := (4 : Int32)) (k := 4) (by decide)) (by decide)) (iv_w hv57 (by decide)) (fun h9 => by have b0a := (hx1_15p).1; have b0b := (hx1_15p).2; have b1a := (hv57).1; have b1b := (hv57).2; omega) hU) (cwV 3 hts (good_V kw_511 kw_512 kw_513 kw_5 kw_514) rfl rfl rfl (by decide +kernel) ⟨by rw [hR]; decide, by rw [hR]; decide⟩) (ti_preV hK hT ha0 rfl rfl) rfl rfl hl.1 rfl (lv_room (Nat.le_of_ble_eq_true rfl)) dX10_act_58 ⟨Nat.zero_le _, Nat.zero_le _⟩) hS (pW_sub rfl) (fun H locs hB hS _ hk58 => ?_)
    obtain ⟨hT, hp58⟩ := hB
    refine lv_aload_n hx hb dX10_act_61 rfl (lv_at hl 1 rfl) ?_
    refine lv_iload_n hx hb dX10_act_62 rfl (lv_at hl 2 rfl) ?_
    refine lv_iconst (v := 0) hx hb dX10_act_63 (by decide) ?_
    refine ti_calli (va_runV (As := [.int x1, .int (0 : Int32)]) (rest := []) ⟨hx, hb, hml, hown, hts⟩ (t_X10_of l hT ha0 (iv_w hx1_15p (by decide)) (iv_w (iv_c (x := (0 : Int32)) (k := 0) (by decide)) (by decide)) hU) (cwV 2 hts (good_V kw_490 kw_491 kw_492 kw_5 kw_493) rfl rfl rfl (by decide +kernel) ⟨by rw [hR]; decide, by rw [hR]; decide⟩) (ti_preV hK hT ha0 rfl rfl) rfl rfl hl.1 rfl (lv_room (Nat.le_of_ble_eq_true rfl)) dX10_act_64 ⟨Nat.zero_le _, Nat.zero_le _⟩) hS (pW_sub rfl) (fun v64 H1 locs hB hS _ hk64 => ?_)
    obtain ⟨hH, hp64⟩ := hB
    rw [hH] at hS ⊢
    have hf64 : iv v64 (-2147483648) 100000 := by have b0a := ((iv_top v64)).1; have b0b := ((iv_top v64)).2; exact ⟨by omega, by omega⟩
    exact ret _ _ _ _ _ dX10_act_67 (⟨hT, iv_w hf64 (by decide)⟩) hS
  · skip
    have kl0 : (0 : Int32).toInt = 0 := by decide
    have f15 := i_nle c15
    have hv8_15l : iv v8 (-5) (-1) := iv_ltl hv8 (iv_c (x := (0 : Int32)) (k := 0) (by decide)) (Int32.not_le.mp c15) (by decide)
    refine lv_iload hx hb dX10_act_18 (lv_at hl 0 rfl) ?_
    exact ret _ _ _ _ _ dX10_act_20 (⟨hT, iv_w hv8_15l (by decide)⟩) hS
set_option maxHeartbeats 4000000 in
set_option maxRecDepth 100000 in
theorem t_X10_thinks (l : Launch) {D : va_G} {c0 : Nat → ClassId} {Y : Nat → Option Nat} {ν : Nat → Nat} {H : Heap} (hT : TI D vwCl (tysOf c0) (RTg ν) Y H) {a0 : Nat} (ha0 : Y a0 = some 10) (hν3 : ν 3 = 0) (hν5 : ν 5 = 0) (hU : uq Y) : Met l yX10_thinks (wz yX10_thinks cX10_thinks 2 none) { frames := 0, cells := 0, slots := 0, locals := 0 } (TP D vwCl (tysOf c0) H [.ref a0]) (TQv (fun H' => TI D vwCl (tysOf c0) (RTg (νt ν)) Y H') Y [10, 41, 42]) 0 0 (pW Y [10, 41, 42]) := by
  refine Met.ofW (cc := cX10_thinks) (maxL := 2) (ret := none) (by decide) rfl ?_
  intro p e s m args below meth c s₁ B hml hv
  obtain ⟨rfl, rfl, hK⟩ := hv
  have hx := B.exec
  have hb := B.bytes
  have hr := B.returns
  have hts : ∀ w ∈ wq, w.before _ s = true := fun w h => atoms_spec (ws := wz yX10_thinks cX10_thinks 2 none) B.pre w (List.mem_cons_of_mem _ h)
  have hown : s.vm.findClass RX10 = some m.cls := findClass_of_methodNamed B.named
  have hlocks := B.notSynchronized
  obtain ⟨R, hR⟩ : ∃ R : Room, R = ({ frames := 0, cells := 0, slots := 0, locals := 0 } : Room) := ⟨_, rfl⟩
  rw [show (headSpec (wz yX10_thinks cX10_thinks 2 none) { frames := 0, cells := 0, slots := 0, locals := 0 }).room = R from hR.symm]
  refine ti_mv hx hb hr hlocks (fun Q ret => ?_)
  have hl := lv_entry [.ref a0] (n := 2) (Nat.le_of_ble_eq_true rfl)
  rw [lg_entry_eq]
  generalize (lg_sl [.ref a0] ++ List.replicate (2 - (lg_sl [.ref a0]).length) Slot.unset).toArray = ls at hl ⊢
  have hl : lv_has ls 2 [(0, .ref a0)] := hl
  refine ti_gen (P := fun H => TI D vwCl (tysOf c0) (RTg ν) Y H) (Y := Y) (ws := [10, 41, 42]) hT (fun H locs hT hS => ?_)
  refine lv_iconst (v := 0) hx hb dX10_thinks_0 (by decide) ?_
  have J2 : ∀ (n : Nat) (j2_L1 : Int32) (H : Heap) (locs : List Loc) (ls : Array Slot), (178 - j2_L1.toInt).toNat < n → iv j2_L1 0 178 → (∀ q, Y q = some 41 → ∀ j : Nat, j < j2_L1.toNatClampNeg → ∃ v : Value, am q (0 + j) v H ∧ gm Y (wfg j) v) → TI D vwCl (tysOf c0) (RTg ν) Y H → va_S (pW Y [10, 41, 42]) s.heap H locs → lv_has ls 2 [(0, .ref a0), (1, .int j2_L1)] → W p l e R s m ([.ref a0] : List Value).toArray below meth c H locs 0 0 Q (F0 m 2 ls []) := by
    intro n
    induction n with
    | zero => intro j2_L1 H locs ls hms; exact absurd hms (Nat.not_lt_zero _)
    | succ n ih2 =>
      intro j2_L1 H locs ls hms2 hj2_L1 hX2_0 hT hS hl
      refine lv_iload_n hx hb dX10_thinks_2 rfl (lv_at hl 1 rfl) ?_
      refine lv_sipush (v := 178) hx hb dX10_thinks_3 (by decide) ?_
      refine lv_icmp_ge (tgt := 36) hx hb dX10_thinks_6 (by decide) (fun c6 => ?_) (fun c6 => ?_)
      · skip
        have kl178 : (178 : Int32).toInt = 178 := by decide
        have f6 := i_le c6
        have hj2_L1_6r : iv j2_L1 178 178 := iv_ler (iv_c (x := (178 : Int32)) (k := 178) (by decide)) hj2_L1 c6 (by decide)
        refine lv_aload_n hx hb dX10_thinks_36 rfl (lv_at hl 0 rfl) ?_
        refine ti_getr hx hb hts inlX10 hown hK hT ha0 rfl rfl rfl 18 (by decide) (hts _ kw_139) (fun _ h9 => h9) rfl dX10_thinks_37 (fun v37 hv37 hm37 => ?_)
        refine lv_aload_n hx hb dX10_thinks_40 rfl (lv_at hl 0 rfl) ?_
        refine ti_geti hx hb hts inlX10 hown hK hT ha0 rfl rfl rfl 19 (by decide) (hts _ kw_823) (fun _ h9 => h9) rfl dX10_thinks_41 (fun v41 hz41 hm41 => ?_)
        have hv41 : iv v41 0 0 := by have z := hz41; rw [hν5] at z; exact z
        refine lv_aload_n hx hb dX10_thinks_44 rfl (lv_at hl 0 rfl) ?_
        refine ti_getl hx hb hts inlX10 hown hK hT ha0 rfl rfl rfl 16 (by decide) (hts _ kw_382) (fun _ h9 => h9) rfl dX10_thinks_45 (fun v45 hm45 => ?_)
        refine ti_last hx hb (aT3 hK) hT hS hv37 rfl rfl hv41 (by decide) (fun _ _ _ => rfl)  (fun _ _ => trivial) dX10_thinks_48 (fun H locs hT hS oq48 he48 hk48 => ?_)
        refine lv_aload_n hx hb dX10_thinks_49 rfl (lv_at hl 0 rfl) ?_
        refine lv_dup hx hb dX10_thinks_50 rfl ?_
        refine ti_getE (ci := 10) (v := .int v41) hx hb hts inlX10 hown hK (hm41.kept (oq48 _ (ne_r ha0 hv37 rfl))) rfl (by decide) (hts _ kw_823) (fun _ h9 => h9) dX10_thinks_51 ?_
        refine lv_iconst (v := 1) hx hb dX10_thinks_54 (by decide) ?_
        refine lv_iadd hx hb dX10_thinks_55 ?_
        refine lv_topi (fun v55 e55 => ?_)
        have hv55 : iv v55 1 1 := by rw [e55]; exact iv_w (iv_add hv41 (iv_c (x := (1 : Int32)) (k := 1) (by decide)) (by decide)) (by decide)
        have s55 : v55.toInt = v41.toInt + 1 := by rw [e55, iv_addE hv41 (iv_c (x := (1 : Int32)) (k := 1) (by decide)) (by decide)]; rfl
        have kl1 : (1 : Int32).toInt = 1 := by decide
        have hinv : ∀ q, Y q = some 41 → ∀ j : Nat, j < 178 → ∃ v : Value, am q (0 + j) v H ∧ gm Y (wfg j) v := fun q hq j hj => by
          obtain ⟨v, g1, g2⟩ := hX2_0 q hq j (by have b0a := (hj2_L1_6r).1; have b0b := (hj2_L1_6r).2; have b1a := (hv41).1; have b1b := (hv41).2; have b2a := ((jv_top v45)).1; have b2b := ((jv_top v45)).2; have b3a := (hv55).1; have b3b := (hv55).2; show j < j2_L1.toInt.toNat; omega)
          exact ⟨v, g1.kept (oq48 _ (ne_r hq hv37 rfl)), g2⟩
        obtain ⟨fs, hat, hln, hfs, -⟩ := ti_obj hT ha0 L10_eq
        have hln : fs.length = 38 := hln
        refine xput (ci := 10) (v := .int v55) (ty := .int) (C := RX10) (T := TX10) (N := 38) (A := pW Y [10, 41, 42]) hx hb hts inlX10 tyX10 tyX10_ok nmX10 hown hK hat hS ⟨10, rfl, ha0⟩ rfl 19 (by decide) (hts _ kw_823) (fun _ h9 => h9) rfl (by omega) (by decide +kernel) rfl rfl dX10_thinks_56 (fun H locs hat2 hS ob => ?_)
        have hT := think_put hU hν3 hT ha0 hfs hln (iv_w hv55 (by decide)) hat2 ob hinv
        exact ret _ _ _ _ dX10_thinks_59 (hT) hS
      · skip
        have kl178 : (178 : Int32).toInt = 178 := by decide
        have f6 := i_nle c6
        have hj2_L1_6l : iv j2_L1 0 177 := iv_ltl hj2_L1 (iv_c (x := (178 : Int32)) (k := 178) (by decide)) (Int32.not_le.mp c6) (by decide)
        refine lv_aload_n hx hb dX10_thinks_9 rfl (lv_at hl 0 rfl) ?_
        refine ti_getr hx hb hts inlX10 hown hK hT ha0 rfl rfl rfl 17 (by decide) (hts _ kw_138) (fun _ h9 => h9) rfl dX10_thinks_10 (fun v10 hv10 hm10 => ?_)
        refine lv_sipush (v := 178) hx hb dX10_thinks_13 (by decide) ?_
        refine lv_aload_n hx hb dX10_thinks_16 rfl (lv_at hl 0 rfl) ?_
        refine ti_geti hx hb hts inlX10 hown hK hT ha0 rfl rfl rfl 19 (by decide) (hts _ kw_823) (fun _ h9 => h9) rfl dX10_thinks_17 (fun v17 hz17 hm17 => ?_)
        have hv17 : iv v17 0 0 := by have z := hz17; rw [hν5] at z; exact z
        refine lv_imul hx hb dX10_thinks_20 ?_
        refine lv_topi (fun v20 e20 => ?_)
        have hv20 : iv v20 0 0 := by rw [e20]; exact iv_mul (iv_c (x := (178 : Int32)) (k := 178) (by decide)) hv17 (by decide)
        have s20 : v20.toInt = (178 : Int32).toInt * v17.toInt := by rw [e20]; exact iv_mulE (iv_c (x := (178 : Int32)) (k := 178) (by decide)) hv17 (by decide)
        have s20 : v20.toInt = 178 * v17.toInt := by rw [s20]; simp only [show (178 : Int32).toInt = 178 from by decide]; try omega
        refine lv_iload_n hx hb dX10_thinks_21 rfl (lv_at hl 1 rfl) ?_
        refine lv_iadd hx hb dX10_thinks_22 ?_
        refine lv_topi (fun v22 e22 => ?_)
        have hv22 : iv v22 0 177 := by rw [e22]; exact iv_w (iv_add hv20 hj2_L1_6l (by decide)) (by decide)
        have s22 : v22.toInt = v20.toInt + j2_L1.toInt := by rw [e22]; exact iv_addE hv20 hj2_L1_6l (by decide)
        refine lv_aload_n hx hb dX10_thinks_23 rfl (lv_at hl 0 rfl) ?_
        refine ti_getr hx hb hts inlX10 hown hK hT ha0 rfl rfl rfl 1 (by decide) (hts _ kw_130) (fun _ h9 => h9) rfl dX10_thinks_24 (fun v24 hv24 hm24 => ?_)
        refine lv_iload_n hx hb dX10_thinks_27 rfl (lv_at hl 1 rfl) ?_
        refine ti_ialdD hx hb (aT0 hK) hT hv24 rfl hj2_L1_6l (by decide) (fun j => wfg_i j) dX10_thinks_28 (fun v28 dv28 hm28 => ?_)
        refine ti_iast hx hb (aT0 hK) hT hS hv10 rfl rfl hv22 (by decide) (kept_st hν3 (by decide) (by decide)) (iv_top v28) (fun _ _ => trivial) dX10_thinks_29 (fun H locs hT hS oq29 he29 hk29 => ?_)
        obtain ⟨v30, e30⟩ : ∃ y : Int32, y = j2_L1 + 1 := ⟨_, rfl⟩
        have hv30 : iv v30 1 178 := by rw [e30]; exact iv_w (iv_add hj2_L1_6l (iv_c (x := (1 : Int32)) (k := 1) (by decide)) (by decide)) (by decide)
        have s30 : v30.toInt = j2_L1.toInt + 1 := by rw [e30, iv_addE hj2_L1_6l (iv_c (x := (1 : Int32)) (k := 1) (by decide)) (by decide)]; rfl
        refine lv_iinc (v := v30) (lv' := [(1, .int v30), (0, .ref a0)]) hx hb dX10_thinks_30 hl (k := 1) rfl (by rw [e30]; rfl) (by decide) rfl (fun ls hl => ?_)
        refine lv_goto (tgt := 2) hx hb dX10_thinks_33 (by decide) ?_
        exact ih2 v30 _ _ _ (ms_up hms2 (by have := s30; omega) (iv_w (c := 1) (d := 178) hv30 (by decide)).2) (iv_w hv30 (by decide)) (fun q hq => by
            have e9 := hU 41 q v10 (by decide) hq hv10
            subst e9
            exact cpy_step (hX2_0 _ hq) he29 hk29 (by have b0a := (hj2_L1_6l).1; have b0b := (hj2_L1_6l).2; have b1a := (hv17).1; have b1b := (hv17).2; have b2a := (hv20).1; have b2b := (hv20).2; have b3a := (hv22).1; have b3b := (hv22).2; have b4a := ((iv_top v28)).1; have b4b := ((iv_top v28)).2; have b5a := (hv30).1; have b5b := (hv30).2; show v22.toInt.toNat = 0 + j2_L1.toInt.toNat; omega) (by have b0a := (hj2_L1_6l).1; have b0b := (hj2_L1_6l).2; have b1a := (hv17).1; have b1b := (hv17).2; have b2a := (hv20).1; have b2b := (hv20).2; have b3a := (hv22).1; have b3b := (hv22).2; have b4a := ((iv_top v28)).1; have b4b := ((iv_top v28)).2; have b5a := (hv30).1; have b5b := (hv30).2; show v30.toInt.toNat = j2_L1.toInt.toNat + 1; omega) dv28) hT hS (lv_sub hl [1, 0] rfl)
  refine lv_istore_n (lv' := [(1, .int (0 : Int32)), (0, .ref a0)]) hx hb dX10_thinks_1 rfl hl (by decide) rfl (fun ls hl => ?_)
  exact J2 _ (0 : Int32) _ _ _ (Nat.lt_succ_self _) (iv_w (iv_c (x := (0 : Int32)) (k := 0) (by decide)) (by decide)) (fun q hq j hj => absurd hj nlt0) hT hS (lv_sub hl [1, 0] rfl)
set_option maxHeartbeats 4000000 in
set_option maxRecDepth 100000 in
theorem t_X10_wakes (l : Launch) {D : va_G} {c0 : Nat → ClassId} {Y : Nat → Option Nat} {ν : Nat → Nat} {H : Heap} (hT : TI D vwCl (tysOf c0) (RTg ν) Y H) {a0 : Nat} (ha0 : Y a0 = some 10) (hν3 : ν 3 = 178) (hν5 : ν 5 = 1) (hU : uq Y) : Met l yX10_wakes (wz yX10_wakes cX10_wakes 2 none) { frames := 0, cells := 0, slots := 0, locals := 0 } (TP D vwCl (tysOf c0) H [.ref a0]) (TQv (fun H' => TI D vwCl (tysOf c0) (RTg (νw ν)) Y H') Y [10, 30]) 0 0 (pW Y [10, 30]) := by
  refine Met.ofW (cc := cX10_wakes) (maxL := 2) (ret := none) (by decide) rfl ?_
  intro p e s m args below meth c s₁ B hml hv
  obtain ⟨rfl, rfl, hK⟩ := hv
  have hx := B.exec
  have hb := B.bytes
  have hr := B.returns
  have hts : ∀ w ∈ wq, w.before _ s = true := fun w h => atoms_spec (ws := wz yX10_wakes cX10_wakes 2 none) B.pre w (List.mem_cons_of_mem _ h)
  have hown : s.vm.findClass RX10 = some m.cls := findClass_of_methodNamed B.named
  have hlocks := B.notSynchronized
  obtain ⟨R, hR⟩ : ∃ R : Room, R = ({ frames := 0, cells := 0, slots := 0, locals := 0 } : Room) := ⟨_, rfl⟩
  rw [show (headSpec (wz yX10_wakes cX10_wakes 2 none) { frames := 0, cells := 0, slots := 0, locals := 0 }).room = R from hR.symm]
  refine ti_mv hx hb hr hlocks (fun Q ret => ?_)
  have hl := lv_entry [.ref a0] (n := 2) (Nat.le_of_ble_eq_true rfl)
  rw [lg_entry_eq]
  generalize (lg_sl [.ref a0] ++ List.replicate (2 - (lg_sl [.ref a0]).length) Slot.unset).toArray = ls at hl ⊢
  have hl : lv_has ls 2 [(0, .ref a0)] := hl
  refine ti_gen (P := fun H => TI D vwCl (tysOf c0) (RTg ν) Y H) (Y := Y) (ws := [10, 30]) hT (fun H locs hT hS => ?_)
  refine lv_aload_n hx hb dX10_wakes_0 rfl (lv_at hl 0 rfl) ?_
  refine lv_dup hx hb dX10_wakes_1 rfl ?_
  refine ti_geti hx hb hts inlX10 hown hK hT ha0 rfl rfl rfl 19 (by decide) (hts _ kw_823) (fun _ h9 => h9) rfl dX10_wakes_2 (fun v2 hz2 hm2 => ?_)
  have hv2 : iv v2 1 1 := by have z := hz2; rw [hν5] at z; exact z
  refine lv_iconst (v := 1) hx hb dX10_wakes_5 (by decide) ?_
  refine lv_isub hx hb dX10_wakes_6 ?_
  refine lv_topi (fun v6 e6 => ?_)
  have hv6 : iv v6 0 0 := by rw [e6]; exact iv_w (iv_sub hv2 (iv_c (x := (1 : Int32)) (k := 1) (by decide)) (by decide)) (by decide)
  have s6 : v6.toInt = v2.toInt - (1 : Int32).toInt := by rw [e6]; exact iv_subE hv2 (iv_c (x := (1 : Int32)) (k := 1) (by decide)) (by decide)
  have kl1 : (1 : Int32).toInt = 1 := by decide
  obtain ⟨fs, hat, hln, hfs, -⟩ := ti_obj hT ha0 L10_eq
  have hln : fs.length = 38 := hln
  refine xput (ci := 10) (v := .int v6) (ty := .int) (C := RX10) (T := TX10) (N := 38) (A := pW Y [10, 30]) hx hb hts inlX10 tyX10 tyX10_ok nmX10 hown hK hat hS ⟨10, rfl, ha0⟩ rfl 19 (by decide) (hts _ kw_823) (fun _ h9 => h9) rfl (by omega) (by decide +kernel) rfl rfl dX10_wakes_7 (fun H locs hat2 hS ob => ?_)
  have hT := wake_put hU hT ha0 hfs hln (iv_w hv6 (by decide)) hat2 ob
  refine lv_iconst (v := 0) hx hb dX10_wakes_10 (by decide) ?_
  have J12 : ∀ (n : Nat) (j12_L1 : Int32) (H : Heap) (locs : List Loc) (ls : Array Slot), (178 - j12_L1.toInt).toNat < n → iv j12_L1 0 178 → TI D vwCl (tysOf c0) (RTg (νd ν)) Y H → va_S (pW Y [10, 30]) s.heap H locs → lv_has ls 2 [(0, .ref a0), (1, .int j12_L1)] → W p l e R s m ([.ref a0] : List Value).toArray below meth c H locs 0 0 Q (F0 m 12 ls []) := by
    intro n
    induction n with
    | zero => intro j12_L1 H locs ls hms; exact absurd hms (Nat.not_lt_zero _)
    | succ n ih12 =>
      intro j12_L1 H locs ls hms12 hj12_L1 hT hS hl
      refine lv_iload_n hx hb dX10_wakes_12 rfl (lv_at hl 1 rfl) ?_
      refine lv_sipush (v := 178) hx hb dX10_wakes_13 (by decide) ?_
      refine lv_icmp_ge (tgt := 46) hx hb dX10_wakes_16 (by decide) (fun c16 => ?_) (fun c16 => ?_)
      · skip
        have kl178 : (178 : Int32).toInt = 178 := by decide
        have f16 := i_le c16
        have hj12_L1_16r : iv j12_L1 178 178 := iv_ler (iv_c (x := (178 : Int32)) (k := 178) (by decide)) hj12_L1 c16 (by decide)
        refine lv_aload_n hx hb dX10_wakes_46 rfl (lv_at hl 0 rfl) ?_
        refine lv_aload_n hx hb dX10_wakes_47 rfl (lv_at hl 0 rfl) ?_
        refine ti_getr hx hb hts inlX10 hown hK hT ha0 rfl rfl rfl 18 (by decide) (hts _ kw_139) (fun _ h9 => h9) rfl dX10_wakes_48 (fun v48 hv48 hm48 => ?_)
        refine lv_aload_n hx hb dX10_wakes_51 rfl (lv_at hl 0 rfl) ?_
        refine ti_geti hx hb hts inlX10 hown hK hT ha0 rfl rfl rfl 19 (by decide) (hts _ kw_823) (fun _ h9 => h9) rfl dX10_wakes_52 (fun v52 hz52 hm52 => ?_)
        have hv52 : iv v52 0 0 := by exact hz52
        refine ti_lald hx hb (aT3 hK) hT hv48 rfl hv52 (by decide) (fun _ _ _ => rfl) dX10_wakes_55 (fun v55 hm55 => ?_)
        refine ti_put (ty := .long) hx hb hts inlX10 tyX10 tyX10_ok nmX10 hown hK hT hS ha0 rfl rfl rfl rfl 16 (by decide) (hts _ kw_382) (fun _ h9 => h9) rfl rfl (by decide +kernel) rfl rfl ⟨v55, rfl⟩ (fun _ _ => trivial) dX10_wakes_56 (fun H locs hT hS oq56 he56 hk56 => ?_)
        exact ret _ _ _ _ dX10_wakes_59 (wake_end hT) hS
      · skip
        have kl178 : (178 : Int32).toInt = 178 := by decide
        have f16 := i_nle c16
        have hj12_L1_16l : iv j12_L1 0 177 := iv_ltl hj12_L1 (iv_c (x := (178 : Int32)) (k := 178) (by decide)) (Int32.not_le.mp c16) (by decide)
        refine lv_aload_n hx hb dX10_wakes_19 rfl (lv_at hl 0 rfl) ?_
        refine ti_getr hx hb hts inlX10 hown hK hT ha0 rfl rfl rfl 1 (by decide) (hts _ kw_130) (fun _ h9 => h9) rfl dX10_wakes_20 (fun v20 hv20 hm20 => ?_)
        refine lv_iload_n hx hb dX10_wakes_23 rfl (lv_at hl 1 rfl) ?_
        refine lv_aload_n hx hb dX10_wakes_24 rfl (lv_at hl 0 rfl) ?_
        refine ti_getr hx hb hts inlX10 hown hK hT ha0 rfl rfl rfl 17 (by decide) (hts _ kw_138) (fun _ h9 => h9) rfl dX10_wakes_25 (fun v25 hv25 hm25 => ?_)
        refine lv_sipush (v := 178) hx hb dX10_wakes_28 (by decide) ?_
        refine lv_aload_n hx hb dX10_wakes_31 rfl (lv_at hl 0 rfl) ?_
        refine ti_geti hx hb hts inlX10 hown hK hT ha0 rfl rfl rfl 19 (by decide) (hts _ kw_823) (fun _ h9 => h9) rfl dX10_wakes_32 (fun v32 hz32 hm32 => ?_)
        have hv32 : iv v32 0 0 := by exact hz32
        refine lv_imul hx hb dX10_wakes_35 ?_
        refine lv_topi (fun v35 e35 => ?_)
        have hv35 : iv v35 0 0 := by rw [e35]; exact iv_mul (iv_c (x := (178 : Int32)) (k := 178) (by decide)) hv32 (by decide)
        have s35 : v35.toInt = (178 : Int32).toInt * v32.toInt := by rw [e35]; exact iv_mulE (iv_c (x := (178 : Int32)) (k := 178) (by decide)) hv32 (by decide)
        have s35 : v35.toInt = 178 * v32.toInt := by rw [s35]; simp only [show (178 : Int32).toInt = 178 from by decide]; try omega
        refine lv_iload_n hx hb dX10_wakes_36 rfl (lv_at hl 1 rfl) ?_
        refine lv_iadd hx hb dX10_wakes_37 ?_
        refine lv_topi (fun v37 e37 => ?_)
        have hv37 : iv v37 0 177 := by rw [e37]; exact iv_w (iv_add hv35 hj12_L1_16l (by decide)) (by decide)
        have s37 : v37.toInt = v35.toInt + j12_L1.toInt := by rw [e37]; exact iv_addE hv35 hj12_L1_16l (by decide)
        refine ti_ialdD hx hb (aT0 hK) hT hv25 rfl hv37 (by decide) (fun j => kept_i j) dX10_wakes_38 (fun v38 dv38 hm38 => ?_)
        refine ti_iastD hx hb (aT0 hK) hT hS hv20 rfl rfl hj12_L1_16l (by decide) (kept_g dv38 hν3 (by have b0a := (hv2).1; have b0b := (hv2).2; have b1a := (hv6).1; have b1b := (hv6).2; have b2a := (hj12_L1_16l).1; have b2b := (hj12_L1_16l).2; have b3a := (hv32).1; have b3b := (hv32).2; have b4a := (hv35).1; have b4b := (hv35).2; have b5a := (hv37).1; have b5b := (hv37).2; have b6a := ((iv_top v38)).1; have b6b := ((iv_top v38)).2; show v37.toInt.toNat = j12_L1.toInt.toNat; omega) (by have b0a := (hv2).1; have b0b := (hv2).2; have b1a := (hv6).1; have b1b := (hv6).2; have b2a := (hj12_L1_16l).1; have b2b := (hj12_L1_16l).2; have b3a := (hv32).1; have b3b := (hv32).2; have b4a := (hv35).1; have b4b := (hv35).2; have b5a := (hv37).1; have b5b := (hv37).2; have b6a := ((iv_top v38)).1; have b6b := ((iv_top v38)).2; show j12_L1.toInt.toNat < 178; omega)) (fun _ _ => trivial) dX10_wakes_39 (fun H locs hT hS oq39 he39 hk39 => ?_)
        obtain ⟨v40, e40⟩ : ∃ y : Int32, y = j12_L1 + 1 := ⟨_, rfl⟩
        have hv40 : iv v40 1 178 := by rw [e40]; exact iv_w (iv_add hj12_L1_16l (iv_c (x := (1 : Int32)) (k := 1) (by decide)) (by decide)) (by decide)
        have s40 : v40.toInt = j12_L1.toInt + 1 := by rw [e40, iv_addE hj12_L1_16l (iv_c (x := (1 : Int32)) (k := 1) (by decide)) (by decide)]; rfl
        refine lv_iinc (v := v40) (lv' := [(1, .int v40), (0, .ref a0)]) hx hb dX10_wakes_40 hl (k := 1) rfl (by rw [e40]; rfl) (by decide) rfl (fun ls hl => ?_)
        refine lv_goto (tgt := 12) hx hb dX10_wakes_43 (by decide) ?_
        exact ih12 v40 _ _ _ (ms_up hms12 (by have := s40; omega) (iv_w (c := 1) (d := 178) hv40 (by decide)).2) (iv_w hv40 (by decide)) hT hS (lv_sub hl [1, 0] rfl)
  refine lv_istore_n (lv' := [(1, .int (0 : Int32)), (0, .ref a0)]) hx hb dX10_wakes_11 rfl hl (by decide) rfl (fun ls hl => ?_)
  exact J12 _ (0 : Int32) _ _ _ (Nat.lt_succ_self _) (iv_w (iv_c (x := (0 : Int32)) (k := 0) (by decide)) (by decide)) hT hS (lv_sub hl [1, 0] rfl)
set_option maxHeartbeats 4000000 in
set_option maxRecDepth 100000 in
theorem t_X10_isSlot (l : Launch) {D : va_G} {c0 : Nat → ClassId} {Y : Nat → Option Nat} {ν : Nat → Nat} {H : Heap} (hT : TI D vwCl (tysOf c0) (RTg ν) Y H) {x0 : Int32} (hx0 : iv x0 (-2147483648) 2147483647) : Met l yX10_isSlot (wz yX10_isSlot cX10_isSlot 1 (some .boolean)) { frames := 1, cells := 0, slots := 0, locals := 25 } (TP D vwCl (tysOf c0) H [.int x0]) (TQi (fun x H' => H' = H ∧ iv x 0 1 ∧ ((x.toInt = 0 ∨ (0 ≤ x0.toInt ∧ x0.toInt ≤ 3)))) Y []) 0 0 (pW Y []) := by
  refine Met.ofW (cc := cX10_isSlot) (maxL := 1) (ret := (some .boolean)) (by decide) rfl ?_
  intro p e s m args below meth c s₁ B hml hv
  obtain ⟨rfl, rfl, hK⟩ := hv
  have hx := B.exec
  have hb := B.bytes
  have hr := B.returns
  have hts : ∀ w ∈ wq, w.before _ s = true := fun w h => atoms_spec (ws := wz yX10_isSlot cX10_isSlot 1 (some .boolean)) B.pre w (List.mem_cons_of_mem _ h)
  have hown : s.vm.findClass RX10 = some m.cls := findClass_of_methodNamed B.named
  have hlocks := B.notSynchronized
  obtain ⟨R, hR⟩ : ∃ R : Room, R = ({ frames := 1, cells := 0, slots := 0, locals := 25 } : Room) := ⟨_, rfl⟩
  rw [show (headSpec (wz yX10_isSlot cX10_isSlot 1 (some .boolean)) { frames := 1, cells := 0, slots := 0, locals := 25 }).room = R from hR.symm]
  refine ti_mz hx hb hr hlocks (fun Q ret => ?_)
  have hl := lv_entry [.int x0] (n := 1) (Nat.le_of_ble_eq_true rfl)
  rw [lg_entry_eq]
  generalize (lg_sl [.int x0] ++ List.replicate (1 - (lg_sl [.int x0]).length) Slot.unset).toArray = ls at hl ⊢
  have hl : lv_has ls 1 [(0, .int x0)] := hl
  have hS : va_S (pW Y []) s.heap s.heap [] := va_S.rf
  refine lv_iload_n hx hb dX10_isSlot_0 rfl (lv_at hl 0 rfl) ?_
  refine lv_i2l hx hb dX10_isSlot_1 rfl ?_
  refine lv_topl (fun v1 e1 => ?_)
  have hv1 : jv v1 (-2147483648) 2147483647 := by rw [e1]; exact jv_i hx0
  have t1 : v1.toInt = x0.toInt := by rw [e1]; exact jv_e _
  refine lv_lconst (v := 0) hx hb dX10_isSlot_2 (by decide) ?_
  have kj0 : (0 : Int64).toInt = 0 := by decide
  refine lv_ldc2 (v := 3) hx hb hown (hts _ kw_485) dX10_isSlot_3 ?_
  have kj3 : (3 : Int64).toInt = 3 := by decide
  refine ti_calli (va_runS (As := [.long v1, .long (0 : Int64), .long (3 : Int64)]) (rest := []) ⟨hx, hb, hml, hown, hts⟩ (t_X10_in l hT (jv_w hv1 (by decide)) (jv_w (jv_c (x := (0 : Int64)) (k := 0) (by decide)) (by decide)) (jv_w (jv_c (x := (3 : Int64)) (k := 3) (by decide)) (by decide))) (cwS 3 hts (good_S kw_181 kw_182 kw_5 kw_183) rfl rfl rfl (by decide +kernel) ⟨by rw [hR]; decide, by rw [hR]; decide⟩) (ti_preS hK) rfl rfl hl.1 rfl (lv_room (Nat.le_of_ble_eq_true rfl)) dX10_isSlot_6 ⟨Nat.zero_le _, Nat.zero_le _⟩) hS (pW_sub rfl) (fun v6 H1 locs hB hS _ hk6 => ?_)
  obtain ⟨hH, hv6, hp6⟩ := hB
  rw [hH] at hS ⊢
  exact ret _ _ _ _ _ dX10_isSlot_9 (iv_w hv6 (by decide)) (⟨rfl, iv_w hv6 (by decide), by have b0a := (hx0).1; have b0b := (hx0).2; have b1a := (hv6).1; have b1b := (hv6).2; have b2a := (hv1).1; have b2b := (hv1).2; omega⟩) hS
