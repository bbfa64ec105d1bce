set_option maxHeartbeats 4000000 in
set_option maxRecDepth 100000 in
theorem t_X10_lend (l : Launch) {D : va_G} {c0 : Nat → ClassId} {Y : Nat → Option Nat} {ν : Nat → Nat} {H : Heap} (hT : TI D vwCl (tysOf c0) (RTg ν) Y H) {a0 : Nat} (ha0 : Y a0 = some 10) {x1 : Int32} (hx1 : iv x1 (-2147483648) 2147483647) {x2 : Int32} (hx2 : iv x2 (-2147483648) 2147483647) {x3 : Int32} (hx3 : iv x3 (-2147483648) 2147483647) (hU : uq Y) : Met l yX10_lend (wz yX10_lend cX10_lend 5 (some .int)) { frames := 3, cells := 0, slots := 0, locals := 82 } (TP D vwCl (tysOf c0) H [.ref a0, .int x1, .int x2, .int x3]) (TQi (fun x H' => TI D vwCl (tysOf c0) (RTg ν) Y H' ∧ iv x (-5) 7) Y [30]) 0 0 (pW Y [30]) := by
  refine Met.ofW (cc := cX10_lend) (maxL := 5) (ret := (some .int)) (by decide) rfl ?_
  intro p e s m args below meth c s₁ B hml hv
  obtain ⟨rfl, rfl, hK⟩ := hv
  have hx := B.exec
  have hb := B.bytes
  have hr := B.returns
  have hts : ∀ w ∈ wq, w.before _ s = true := fun w h => atoms_spec (ws := wz yX10_lend cX10_lend 5 (some .int)) B.pre w (List.mem_cons_of_mem _ h)
  have hown : s.vm.findClass RX10 = some m.cls := findClass_of_methodNamed B.named
  have hlocks := B.notSynchronized
  obtain ⟨R, hR⟩ : ∃ R : Room, R = ({ frames := 3, cells := 0, slots := 0, locals := 82 } : Room) := ⟨_, rfl⟩
  rw [show (headSpec (wz yX10_lend cX10_lend 5 (some .int)) { frames := 3, cells := 0, slots := 0, locals := 82 }).room = R from hR.symm]
  refine ti_mi hx hb hr hlocks (fun Q ret => ?_)
  have hl := lv_entry [.ref a0, .int x1, .int x2, .int x3] (n := 5) (Nat.le_of_ble_eq_true rfl)
  rw [lg_entry_eq]
  generalize (lg_sl [.ref a0, .int x1, .int x2, .int x3] ++ List.replicate (5 - (lg_sl [.ref a0, .int x1, .int x2, .int x3]).length) Slot.unset).toArray = ls at hl ⊢
  have hl : lv_has ls 5 [(0, .ref a0), (1, .int x1), (2, .int x2), (3, .int x3)] := hl
  refine ti_gen (P := fun H => TI D vwCl (tysOf c0) (RTg ν) Y H) (Y := Y) (ws := [30]) hT (fun H locs hT hS => ?_)
  refine lv_aload_n hx hb dX10_lend_0 rfl (lv_at hl 0 rfl) ?_
  refine lv_iload_n hx hb dX10_lend_1 rfl (lv_at hl 1 rfl) ?_
  refine lv_iload_n hx hb dX10_lend_2 rfl (lv_at hl 2 rfl) ?_
  refine ti_calli (va_runV (As := [.int x1, .int x2]) (rest := []) ⟨hx, hb, hml, hown, hts⟩ (t_X10_areTwo l hT ha0 (iv_w hx1 (by decide)) (iv_w hx2 (by decide)) hU) (cwV 2 hts (good_V kw_545 kw_546 kw_547 kw_5 kw_548) rfl rfl rfl (by decide +kernel) ⟨by rw [hR]; decide, by rw [hR]; decide⟩) (ti_preV hK hT ha0 rfl rfl) rfl rfl hl.1 rfl (lv_room (Nat.le_of_ble_eq_true rfl)) dX10_lend_3 ⟨Nat.zero_le _, Nat.zero_le _⟩) hS (pW_sub rfl) (fun v3 H1 locs hB hS _ hk3 => ?_)
  obtain ⟨hH, hv3, hp3⟩ := hB
  rw [hH] at hS ⊢
  refine lv_if_eq (tgt := 21) hx hb dX10_lend_6 (by decide) (fun c6 => ?_) (fun c6 => ?_)
  · skip
    have kl0 : (0 : Int32).toInt = 0 := by decide
    have f6 := i_eq c6
    have hv3_6l : iv v3 0 0 := iv_eql hv3 (iv_c (x := (0 : Int32)) (k := 0) (by decide)) c6 (by decide)
    refine lv_bipush (v := (-2)) hx hb dX10_lend_21 (by decide) ?_
    exact ret _ _ _ _ _ dX10_lend_23 (⟨hT, iv_w (iv_c (x := (-2 : Int32)) (k := (-2)) (by decide)) (by decide)⟩) hS
  · skip
    have kl0 : (0 : Int32).toInt = 0 := by decide
    have f6 := i_ne c6
    have hv3_6l : iv v3 1 1 := iv_nel hv3 (iv_c (x := (0 : Int32)) (k := 0) (by decide)) c6 (by decide)
    have hx1_6p : iv x1 0 7 := by have b0a := (hx1).1; have b0b := (hx1).2; exact ⟨by omega, by omega⟩
    have hx2_6p : iv x2 0 7 := by have b0a := (hx2).1; have b0b := (hx2).2; exact ⟨by omega, by omega⟩
    refine lv_iload_n hx hb dX10_lend_9 rfl (lv_at hl 3 rfl) ?_
    refine lv_i2l hx hb dX10_lend_10 rfl ?_
    refine lv_topl (fun v10 e10 => ?_)
    have hv10 : jv v10 (-2147483648) 2147483647 := by rw [e10]; exact jv_i hx3
    have t10 : v10.toInt = x3.toInt := by rw [e10]; exact jv_e _
    refine lv_lconst (v := 1) hx hb dX10_lend_11 (by decide) ?_
    have kj1 : (1 : Int64).toInt = 1 := by decide
    refine lv_ldc2 (v := 30) hx hb hown (hts _ kw_524) dX10_lend_12 ?_
    have kj30 : (30 : Int64).toInt = 30 := by decide
    refine ti_calli (va_runS (As := [.long v10, .long (1 : Int64), .long (30 : Int64)]) (rest := []) ⟨hx, hb, hml, hown, hts⟩ (t_X10_in l hT (jv_w hv10 (by decide)) (jv_w (jv_c (x := (1 : Int64)) (k := 1) (by decide)) (by decide)) (jv_w (jv_c (x := (30 : Int64)) (k := 30) (by decide)) (by decide))) (cwS 3 hts (good_S kw_181 kw_182 kw_5 kw_183) rfl rfl rfl (by decide +kernel) ⟨by rw [hR]; decide, by rw [hR]; decide⟩) (ti_preS hK) rfl rfl hl.1 rfl (lv_room (Nat.le_of_ble_eq_true rfl)) dX10_lend_15 ⟨Nat.zero_le _, Nat.zero_le _⟩) hS (pW_sub rfl) (fun v15 H1 locs hB hS _ hk15 => ?_)
    obtain ⟨hH, hv15, hp15⟩ := hB
    rw [hH] at hS ⊢
    refine lv_if_ne (tgt := 24) hx hb dX10_lend_18 (by decide) (fun c18 => ?_) (fun c18 => ?_)
    · skip
      have f18 := i_ne c18
      have hv15_18l : iv v15 1 1 := iv_nel hv15 (iv_c (x := (0 : Int32)) (k := 0) (by decide)) c18 (by decide)
      have hv10_18p : jv v10 1 30 := by have b0a := (hv10).1; have b0b := (hv10).2; have b1a := ((jv_c (x := (1 : Int64)) (k := 1) (by decide))).1; have b1b := ((jv_c (x := (1 : Int64)) (k := 1) (by decide))).2; have b2a := ((jv_c (x := (30 : Int64)) (k := 30) (by decide))).1; have b2b := ((jv_c (x := (30 : Int64)) (k := 30) (by decide))).2; exact ⟨by omega, by omega⟩
      have hx3_18p : iv x3 1 30 := by have := t10; have b0a := (hv10_18p).1; have b0b := (hv10_18p).2; have b1a := (hx3).1; have b1b := (hx3).2; exact ⟨by omega, by omega⟩
      refine lv_aload_n hx hb dX10_lend_24 rfl (lv_at hl 0 rfl) ?_
      refine ti_getr hx hb hts inlX10 hown hK hT ha0 rfl rfl rfl 1 (by decide) (hts _ kw_130) (fun _ h9 => h9) rfl dX10_lend_25 (fun v25 hv25 hm25 => ?_)
      refine lv_bipush (v := 9) hx hb dX10_lend_28 (by decide) ?_
      refine ti_iald (lo := 0) (hi := 6) hx hb (aT0 hK) hT hv25 rfl (iv_c (x := (9 : Int32)) (k := 9) (by decide)) (by decide) (one_j 9 rfl rfl (by decide) (by decide)) dX10_lend_30 (fun v30 hv30 hm30 => ?_)
      refine lv_bipush (v := 6) hx hb dX10_lend_31 (by decide) ?_
      refine lv_icmp_ne (tgt := 39) hx hb dX10_lend_33 (by decide) (fun c33 => ?_) (fun c33 => ?_)
      · skip
        have kl6 : (6 : Int32).toInt = 6 := by decide
        have f33 := i_ne c33
        have hv30_33l : iv v30 0 5 := iv_nel hv30 (iv_c (x := (6 : Int32)) (k := 6) (by decide)) c33 (by decide)
        refine lv_aload_n hx hb dX10_lend_39 rfl (lv_at hl 0 rfl) ?_
        refine lv_iload_n hx hb dX10_lend_40 rfl (lv_at hl 1 rfl) ?_
        refine lv_iload_n hx hb dX10_lend_41 rfl (lv_at hl 2 rfl) ?_
        refine lv_iload_n hx hb dX10_lend_42 rfl (lv_at hl 3 rfl) ?_
        refine ti_calli (va_runV (As := [.int x1, .int x2, .int x3]) (rest := []) ⟨hx, hb, hml, hown, hts⟩ (t_X10_canLend l hT ha0 (iv_w hx1_6p (by decide)) (iv_w hx2_6p (by decide)) (iv_w hx3_18p (by decide)) hU) (cwV 3 hts (good_V kw_1313 kw_1314 kw_1315 kw_5 kw_1316) rfl rfl rfl (by decide +kernel) ⟨by rw [hR]; decide, by rw [hR]; decide⟩) (ti_preV hK hT ha0 rfl rfl) rfl rfl hl.1 rfl (lv_room (Nat.le_of_ble_eq_true rfl)) dX10_lend_43 ⟨Nat.zero_le _, Nat.zero_le _⟩) hS (pW_sub rfl) (fun v43 H1 locs hB hS _ hk43 => ?_)
        obtain ⟨hH, hv43⟩ := hB
        rw [hH] at hS ⊢
        refine lv_if_ne (tgt := 52) hx hb dX10_lend_46 (by decide) (fun c46 => ?_) (fun c46 => ?_)
        · skip
          have f46 := i_ne c46
          have hv43_46l : iv v43 1 1 := iv_nel hv43 (iv_c (x := (0 : Int32)) (k := 0) (by decide)) c46 (by decide)
          refine lv_aload_n hx hb dX10_lend_52 rfl (lv_at hl 0 rfl) ?_
          refine lv_iload_n hx hb dX10_lend_53 rfl (lv_at hl 1 rfl) ?_
          refine lv_aload_n hx hb dX10_lend_54 rfl (lv_at hl 0 rfl) ?_
          refine lv_iload_n hx hb dX10_lend_55 rfl (lv_at hl 1 rfl) ?_
          refine lv_iconst (v := 0) hx hb dX10_lend_56 (by decide) ?_
          refine ti_calli (va_runV (As := [.int x1, .int (0 : Int32)]) (rest := [.int x1, .ref a0]) ⟨hx, hb, hml, hown, hts⟩ (t_X10_of l hT ha0 (iv_w hx1_6p (by decide)) (iv_w (iv_c (x := (0 : Int32)) (k := 0) (by decide)) (by decide)) hU) (cwV 2 hts (good_V kw_490 kw_491 kw_492 kw_5 kw_493) rfl rfl rfl (by decide +kernel) ⟨by rw [hR]; decide, by rw [hR]; decide⟩) (ti_preV hK hT ha0 rfl rfl) rfl rfl hl.1 rfl (lv_room (Nat.le_of_ble_eq_true rfl)) dX10_lend_57 ⟨Nat.zero_le _, Nat.zero_le _⟩) hS (pW_sub rfl) (fun v57 H1 locs hB hS _ hk57 => ?_)
          obtain ⟨hH, hp57⟩ := hB
          rw [hH] at hS ⊢
          have hf57 : iv v57 (-2147483648) 100000 := by have b0a := ((iv_top v57)).1; have b0b := ((iv_top v57)).2; exact ⟨by omega, by omega⟩
          refine lv_iload_n hx hb dX10_lend_60 rfl (lv_at hl 3 rfl) ?_
          refine lv_isub hx hb dX10_lend_61 ?_
          refine lv_topi (fun v61 e61 => ?_)
          have hv61 : iv v61 (-2147483648) 2147483647 := iv_top _
          refine ti_callv (va_runV (As := [.int x1, .int v61]) (rest := []) ⟨hx, hb, hml, hown, hts⟩ (t_X10_has l hT ha0 (iv_w hx1_6p (by decide)) (iv_w hv61 (by decide)) hU) (cwV 2 hts (good_V kw_507 kw_508 kw_509 kw_5 kw_510) rfl rfl rfl (by decide +kernel) ⟨by rw [hR]; decide, by rw [hR]; decide⟩) (ti_preV hK hT ha0 rfl rfl) rfl rfl hl.1 rfl (lv_room (Nat.le_of_ble_eq_true rfl)) dX10_lend_62 ⟨Nat.zero_le _, Nat.zero_le _⟩) hS (pW_sub rfl) (fun H locs hB hS _ hk62 => ?_)
          obtain ⟨hT, hp62⟩ := hB
          refine lv_aload_n hx hb dX10_lend_65 rfl (lv_at hl 0 rfl) ?_
          refine lv_iload_n hx hb dX10_lend_66 rfl (lv_at hl 2 rfl) ?_
          refine lv_aload_n hx hb dX10_lend_67 rfl (lv_at hl 0 rfl) ?_
          refine lv_iload_n hx hb dX10_lend_68 rfl (lv_at hl 2 rfl) ?_
          refine lv_iconst (v := 0) hx hb dX10_lend_69 (by decide) ?_
          refine ti_calli (va_runV (As := [.int x2, .int (0 : Int32)]) (rest := [.int x2, .ref a0]) ⟨hx, hb, hml, hown, hts⟩ (t_X10_of l hT ha0 (iv_w hx2_6p (by decide)) (iv_w (iv_c (x := (0 : Int32)) (k := 0) (by decide)) (by decide)) hU) (cwV 2 hts (good_V kw_490 kw_491 kw_492 kw_5 kw_493) rfl rfl rfl (by decide +kernel) ⟨by rw [hR]; decide, by rw [hR]; decide⟩) (ti_preV hK hT ha0 rfl rfl) rfl rfl hl.1 rfl (lv_room (Nat.le_of_ble_eq_true rfl)) dX10_lend_70 ⟨Nat.zero_le _, Nat.zero_le _⟩) hS (pW_sub rfl) (fun v70 H1 locs hB hS _ hk70 => ?_)
          obtain ⟨hH, hp70⟩ := hB
          rw [hH] at hS ⊢
          have hf70 : iv v70 (-2147483648) 100000 := by have b0a := ((iv_top v70)).1; have b0b := ((iv_top v70)).2; exact ⟨by omega, by omega⟩
          refine lv_iload_n hx hb dX10_lend_73 rfl (lv_at hl 3 rfl) ?_
          refine lv_iadd hx hb dX10_lend_74 ?_
          refine lv_topi (fun v74 e74 => ?_)
          have hv74 : iv v74 (-2147483647) 100030 := by rw [e74]; exact iv_w (iv_add hf70 hx3_18p (by decide)) (by decide)
          have s74 : v74.toInt = v70.toInt + x3.toInt := by rw [e74]; exact iv_addE hf70 hx3_18p (by decide)
          refine ti_callv (va_runV (As := [.int x2, .int v74]) (rest := []) ⟨hx, hb, hml, hown, hts⟩ (t_X10_has l hT ha0 (iv_w hx2_6p (by decide)) (iv_w hv74 (by decide)) hU) (cwV 2 hts (good_V kw_507 kw_508 kw_509 kw_5 kw_510) rfl rfl rfl (by decide +kernel) ⟨by rw [hR]; decide, by rw [hR]; decide⟩) (ti_preV hK hT ha0 rfl rfl) rfl rfl hl.1 rfl (lv_room (Nat.le_of_ble_eq_true rfl)) dX10_lend_75 ⟨Nat.zero_le _, Nat.zero_le _⟩) hS (pW_sub rfl) (fun H locs hB hS _ hk75 => ?_)
          obtain ⟨hT, hp75⟩ := hB
          refine lv_sipush (v := 160) hx hb dX10_lend_78 (by decide) ?_
          refine lv_iconst (v := 3) hx hb dX10_lend_81 (by decide) ?_
          refine lv_aload_n hx hb dX10_lend_82 rfl (lv_at hl 0 rfl) ?_
          refine ti_getE (ci := 10) (v := .ref v25) hx hb hts inlX10 hown hK ((hm25.call hk62 (pW_not ha0 rfl)).call hk75 (pW_not ha0 rfl)) rfl (by decide) (hts _ kw_130) (fun _ h9 => h9) dX10_lend_83 ?_
          refine lv_bipush (v := 9) hx hb dX10_lend_86 (by decide) ?_
          refine ti_iald (lo := 0) (hi := 6) hx hb (aT0 hK) hT hv25 rfl (iv_c (x := (9 : Int32)) (k := 9) (by decide)) (by decide) (one_j 9 rfl rfl (by decide) (by decide)) dX10_lend_88 (fun v88 hw88 hm88 => ?_)
          have e88 : v88 = v30 := wv_at (hp75 _ (hp62 _ ⟨v25, hm25, hm30⟩)) ((hm25.call hk62 (pW_not ha0 rfl)).call hk75 (pW_not ha0 rfl)) hm88
          have hv88 : iv v88 0 5 := by rw [e88]; exact iv_w hv30_33l (by decide)
          refine lv_imul hx hb dX10_lend_89 ?_
          refine lv_topi (fun v89 e89 => ?_)
          have hv89 : iv v89 0 15 := by rw [e89]; exact iv_mul (iv_c (x := (3 : Int32)) (k := 3) (by decide)) hv88 (by decide)
          have kl3 : (3 : Int32).toInt = 3 := by decide
          have s89 : v89.toInt = (3 : Int32).toInt * v88.toInt := by rw [e89]; exact iv_mulE (iv_c (x := (3 : Int32)) (k := 3) (by decide)) hv88 (by decide)
          have s89 : v89.toInt = 3 * v88.toInt := by rw [s89]; simp only [show (3 : Int32).toInt = 3 from by decide]; try omega
          refine lv_iadd hx hb dX10_lend_90 ?_
          refine lv_topi (fun v90 e90 => ?_)
          have hv90 : iv v90 160 175 := by rw [e90]; exact iv_w (iv_add (iv_c (x := (160 : Int32)) (k := 160) (by decide)) hv89 (by decide)) (by decide)
          have s90 : v90.toInt = (160 : Int32).toInt + v89.toInt := by rw [e90]; exact iv_addE (iv_c (x := (160 : Int32)) (k := 160) (by decide)) hv89 (by decide)
          have kl160 : (160 : Int32).toInt = 160 := by decide
          refine lv_istore (lv' := [(4, .int v90), (0, .ref a0), (1, .int x1), (2, .int x2), (3, .int x3)]) hx hb dX10_lend_91 hl (by decide) rfl (fun ls hl => ?_)
          refine lv_aload_n hx hb dX10_lend_93 rfl (lv_at hl 1 rfl) ?_
          refine ti_getE (ci := 10) (v := .ref v25) hx hb hts inlX10 hown hK ((hm25.call hk62 (pW_not ha0 rfl)).call hk75 (pW_not ha0 rfl)) rfl (by decide) (hts _ kw_130) (fun _ h9 => h9) dX10_lend_94 ?_
          refine lv_iload hx hb dX10_lend_97 (lv_at hl 0 rfl) ?_
          refine lv_iload_n hx hb dX10_lend_99 rfl (lv_at hl 2 rfl) ?_
          refine ti_iastD hx hb (aT0 hK) hT hS hv25 rfl rfl hv90 (by decide) (gm_mk (j' := 160 + 3 * v88.toNatClampNeg) (by have b0a := (hx1_6p).1; have b0b := (hx1_6p).2; have b1a := (hx2_6p).1; have b1b := (hx2_6p).2; have b2a := (hx3_18p).1; have b2b := (hx3_18p).2; have b3a := (hv3_6l).1; have b3b := (hv3_6l).2; have b4a := (hv10_18p).1; have b4b := (hv10_18p).2; have b5a := (hv15_18l).1; have b5b := (hv15_18l).2; have b6a := (hv30_33l).1; have b6b := (hv30_33l).2; have b7a := (hv43_46l).1; have b7b := (hv43_46l).2; have b8a := (hf57).1; have b8b := (hf57).2; have b9a := (hv61).1; have b9b := (hv61).2; have b10a := (hf70).1; have b10b := (hf70).2; have b11a := (hv74).1; have b11b := (hv74).2; have b12a := (hv88).1; have b12b := (hv88).2; have b13a := (hv89).1; have b13b := (hv89).2; have b14a := (hv90).1; have b14b := (hv90).2; show v90.toInt.toNat = 160 + 3 * v88.toInt.toNat; omega) (loan_ld _ (by have b0a := (hx1_6p).1; have b0b := (hx1_6p).2; have b1a := (hx2_6p).1; have b1b := (hx2_6p).2; have b2a := (hx3_18p).1; have b2b := (hx3_18p).2; have b3a := (hv3_6l).1; have b3b := (hv3_6l).2; have b4a := (hv10_18p).1; have b4b := (hv10_18p).2; have b5a := (hv15_18l).1; have b5b := (hv15_18l).2; have b6a := (hv30_33l).1; have b6b := (hv30_33l).2; have b7a := (hv43_46l).1; have b7b := (hv43_46l).2; have b8a := (hf57).1; have b8b := (hf57).2; have b9a := (hv61).1; have b9b := (hv61).2; have b10a := (hf70).1; have b10b := (hf70).2; have b11a := (hv74).1; have b11b := (hv74).2; have b12a := (hv88).1; have b12b := (hv88).2; have b13a := (hv89).1; have b13b := (hv89).2; have b14a := (hv90).1; have b14b := (hv90).2; show v88.toInt.toNat < 6; omega)).1 (iv_w hx1_6p (by decide))) (fun _ _ => trivial) dX10_lend_100 (fun H locs hT hS oq100 he100 hk100 => ?_)
          refine lv_aload_n hx hb dX10_lend_101 rfl (lv_at hl 1 rfl) ?_
          refine ti_getE (ci := 10) (v := .ref v25) hx hb hts inlX10 hown hK (((hm25.call hk62 (pW_not ha0 rfl)).call hk75 (pW_not ha0 rfl)).kept (oq100 _ (ne_r ha0 hv25 rfl))) rfl (by decide) (hts _ kw_130) (fun _ h9 => h9) dX10_lend_102 ?_
          refine lv_iload hx hb dX10_lend_105 (lv_at hl 0 rfl) ?_
          refine lv_iconst (v := 1) hx hb dX10_lend_107 (by decide) ?_
          refine lv_iadd hx hb dX10_lend_108 ?_
          refine lv_topi (fun v108 e108 => ?_)
          have hv108 : iv v108 161 176 := by rw [e108]; exact iv_w (iv_add hv90 (iv_c (x := (1 : Int32)) (k := 1) (by decide)) (by decide)) (by decide)
          have s108 : v108.toInt = v90.toInt + 1 := by rw [e108, iv_addE hv90 (iv_c (x := (1 : Int32)) (k := 1) (by decide)) (by decide)]; rfl
          have kl1 : (1 : Int32).toInt = 1 := by decide
          refine lv_iload_n hx hb dX10_lend_109 rfl (lv_at hl 3 rfl) ?_
          refine ti_iastD hx hb (aT0 hK) hT hS hv25 rfl rfl hv108 (by decide) (gm_mk (j' := 160 + 3 * v88.toNatClampNeg + 1) (by have b0a := (hx1_6p).1; have b0b := (hx1_6p).2; have b1a := (hx2_6p).1; have b1b := (hx2_6p).2; have b2a := (hx3_18p).1; have b2b := (hx3_18p).2; have b3a := (hv3_6l).1; have b3b := (hv3_6l).2; have b4a := (hv10_18p).1; have b4b := (hv10_18p).2; have b5a := (hv15_18l).1; have b5b := (hv15_18l).2; have b6a := (hv30_33l).1; have b6b := (hv30_33l).2; have b7a := (hv43_46l).1; have b7b := (hv43_46l).2; have b8a := (hf57).1; have b8b := (hf57).2; have b9a := (hv61).1; have b9b := (hv61).2; have b10a := (hf70).1; have b10b := (hf70).2; have b11a := (hv74).1; have b11b := (hv74).2; have b12a := (hv88).1; have b12b := (hv88).2; have b13a := (hv89).1; have b13b := (hv89).2; have b14a := (hv90).1; have b14b := (hv90).2; have b15a := (hv108).1; have b15b := (hv108).2; show v108.toInt.toNat = 160 + 3 * v88.toInt.toNat + 1; omega) (loan_ld _ (by have b0a := (hx1_6p).1; have b0b := (hx1_6p).2; have b1a := (hx2_6p).1; have b1b := (hx2_6p).2; have b2a := (hx3_18p).1; have b2b := (hx3_18p).2; have b3a := (hv3_6l).1; have b3b := (hv3_6l).2; have b4a := (hv10_18p).1; have b4b := (hv10_18p).2; have b5a := (hv15_18l).1; have b5b := (hv15_18l).2; have b6a := (hv30_33l).1; have b6b := (hv30_33l).2; have b7a := (hv43_46l).1; have b7b := (hv43_46l).2; have b8a := (hf57).1; have b8b := (hf57).2; have b9a := (hv61).1; have b9b := (hv61).2; have b10a := (hf70).1; have b10b := (hf70).2; have b11a := (hv74).1; have b11b := (hv74).2; have b12a := (hv88).1; have b12b := (hv88).2; have b13a := (hv89).1; have b13b := (hv89).2; have b14a := (hv90).1; have b14b := (hv90).2; have b15a := (hv108).1; have b15b := (hv108).2; show v88.toInt.toNat < 6; omega)).2.1 (iv_w hx2_6p (by decide))) (fun _ _ => trivial) dX10_lend_110 (fun H locs hT hS oq110 he110 hk110 => ?_)
          refine lv_aload_n hx hb dX10_lend_111 rfl (lv_at hl 1 rfl) ?_
          refine ti_getE (ci := 10) (v := .ref v25) hx hb hts inlX10 hown hK ((((hm25.call hk62 (pW_not ha0 rfl)).call hk75 (pW_not ha0 rfl)).kept (oq100 _ (ne_r ha0 hv25 rfl))).kept (oq110 _ (ne_r ha0 hv25 rfl))) rfl (by decide) (hts _ kw_130) (fun _ h9 => h9) dX10_lend_112 ?_
          refine lv_iload hx hb dX10_lend_115 (lv_at hl 0 rfl) ?_
          refine lv_iconst (v := 2) hx hb dX10_lend_117 (by decide) ?_
          refine lv_iadd hx hb dX10_lend_118 ?_
          refine lv_topi (fun v118 e118 => ?_)
          have hv118 : iv v118 162 177 := by rw [e118]; exact iv_w (iv_add hv90 (iv_c (x := (2 : Int32)) (k := 2) (by decide)) (by decide)) (by decide)
          have s118 : v118.toInt = v90.toInt + 2 := by rw [e118, iv_addE hv90 (iv_c (x := (2 : Int32)) (k := 2) (by decide)) (by decide)]; rfl
          have kl2 : (2 : Int32).toInt = 2 := by decide
          refine lv_iload_n hx hb dX10_lend_119 rfl (lv_at hl 4 rfl) ?_
          refine ti_iastD hx hb (aT0 hK) hT hS hv25 rfl rfl hv118 (by decide) (gm_mk (j' := 160 + 3 * v88.toNatClampNeg + 2) (by have b0a := (hx1_6p).1; have b0b := (hx1_6p).2; have b1a := (hx2_6p).1; have b1b := (hx2_6p).2; have b2a := (hx3_18p).1; have b2b := (hx3_18p).2; have b3a := (hv3_6l).1; have b3b := (hv3_6l).2; have b4a := (hv10_18p).1; have b4b := (hv10_18p).2; have b5a := (hv15_18l).1; have b5b := (hv15_18l).2; have b6a := (hv30_33l).1; have b6b := (hv30_33l).2; have b7a := (hv43_46l).1; have b7b := (hv43_46l).2; have b8a := (hf57).1; have b8b := (hf57).2; have b9a := (hv61).1; have b9b := (hv61).2; have b10a := (hf70).1; have b10b := (hf70).2; have b11a := (hv74).1; have b11b := (hv74).2; have b12a := (hv88).1; have b12b := (hv88).2; have b13a := (hv89).1; have b13b := (hv89).2; have b14a := (hv90).1; have b14b := (hv90).2; have b15a := (hv108).1; have b15b := (hv108).2; have b16a := (hv118).1; have b16b := (hv118).2; show v118.toInt.toNat = 160 + 3 * v88.toInt.toNat + 2; omega) (loan_ld _ (by have b0a := (hx1_6p).1; have b0b := (hx1_6p).2; have b1a := (hx2_6p).1; have b1b := (hx2_6p).2; have b2a := (hx3_18p).1; have b2b := (hx3_18p).2; have b3a := (hv3_6l).1; have b3b := (hv3_6l).2; have b4a := (hv10_18p).1; have b4b := (hv10_18p).2; have b5a := (hv15_18l).1; have b5b := (hv15_18l).2; have b6a := (hv30_33l).1; have b6b := (hv30_33l).2; have b7a := (hv43_46l).1; have b7b := (hv43_46l).2; have b8a := (hf57).1; have b8b := (hf57).2; have b9a := (hv61).1; have b9b := (hv61).2; have b10a := (hf70).1; have b10b := (hf70).2; have b11a := (hv74).1; have b11b := (hv74).2; have b12a := (hv88).1; have b12b := (hv88).2; have b13a := (hv89).1; have b13b := (hv89).2; have b14a := (hv90).1; have b14b := (hv90).2; have b15a := (hv108).1; have b15b := (hv108).2; have b16a := (hv118).1; have b16b := (hv118).2; show v88.toInt.toNat < 6; omega)).2.2 (iv_w hx3_18p (by decide))) (fun _ _ => trivial) dX10_lend_120 (fun H locs hT hS oq120 he120 hk120 => ?_)
          refine lv_aload_n hx hb dX10_lend_121 rfl (lv_at hl 1 rfl) ?_
          refine ti_getE (ci := 10) (v := .ref v25) hx hb hts inlX10 hown hK (((((hm25.call hk62 (pW_not ha0 rfl)).call hk75 (pW_not ha0 rfl)).kept (oq100 _ (ne_r ha0 hv25 rfl))).kept (oq110 _ (ne_r ha0 hv25 rfl))).kept (oq120 _ (ne_r ha0 hv25 rfl))) rfl (by decide) (hts _ kw_130) (fun _ h9 => h9) dX10_lend_122 ?_
          refine lv_bipush (v := 9) hx hb dX10_lend_125 (by decide) ?_
          refine lv_dup2_11 hx hb dX10_lend_127 rfl rfl ?_
          refine ti_ialdE (v := .int v88) hx hb (aT0 hK) hT hv25 rfl (iv_c (x := (9 : Int32)) (k := 9) (by decide)) (by decide) ((hk120 _ _ (ix_ne (iv_c (x := (9 : Int32)) (k := 9) (by decide)) hv118 (by decide)) (hk110 _ _ (ix_ne (iv_c (x := (9 : Int32)) (k := 9) (by decide)) hv108 (by decide)) (hk100 _ _ (ix_ne (iv_c (x := (9 : Int32)) (k := 9) (by decide)) hv90 (by decide)) hm88)))) dX10_lend_128 ?_
          refine lv_iconst (v := 1) hx hb dX10_lend_129 (by decide) ?_
          refine lv_iadd hx hb dX10_lend_130 ?_
          refine lv_topi (fun v130 e130 => ?_)
          have hv130 : iv v130 1 6 := by rw [e130]; exact iv_w (iv_add hv88 (iv_c (x := (1 : Int32)) (k := 1) (by decide)) (by decide)) (by decide)
          have s130 : v130.toInt = v88.toInt + 1 := by rw [e130, iv_addE hv88 (iv_c (x := (1 : Int32)) (k := 1) (by decide)) (by decide)]; rfl
          refine ti_iast hx hb (aT0 hK) hT hS hv25 rfl rfl (iv_c (x := (9 : Int32)) (k := 9) (by decide)) (by decide) (one_s 9 rfl rfl (by decide) (by decide)) hv130 (fun _ _ => trivial) dX10_lend_131 (fun H locs hT hS oq131 he131 hk131 => ?_)
          refine lv_aload_n hx hb dX10_lend_132 rfl (lv_at hl 1 rfl) ?_
          refine ti_getE (ci := 10) (v := .ref v25) hx hb hts inlX10 hown hK ((((((hm25.call hk62 (pW_not ha0 rfl)).call hk75 (pW_not ha0 rfl)).kept (oq100 _ (ne_r ha0 hv25 rfl))).kept (oq110 _ (ne_r ha0 hv25 rfl))).kept (oq120 _ (ne_r ha0 hv25 rfl))).kept (oq131 _ (ne_r ha0 hv25 rfl))) rfl (by decide) (hts _ kw_130) (fun _ h9 => h9) dX10_lend_133 ?_
          refine lv_bipush (v := 9) hx hb dX10_lend_136 (by decide) ?_
          refine ti_ialdE (v := .int v130) hx hb (aT0 hK) hT hv25 rfl (iv_c (x := (9 : Int32)) (k := 9) (by decide)) (by decide) (he131) dX10_lend_138 ?_
          exact ret _ _ _ _ _ dX10_lend_139 (⟨hT, iv_w hv130 (by decide)⟩) hS
        · skip
          have f46 := i_eq c46
          have hv43_46l : iv v43 0 0 := iv_eql hv43 (iv_c (x := (0 : Int32)) (k := 0) (by decide)) c46 (by decide)
          refine lv_bipush (v := (-5)) hx hb dX10_lend_49 (by decide) ?_
          exact ret _ _ _ _ _ dX10_lend_51 (⟨hT, iv_w (iv_c (x := (-5 : Int32)) (k := (-5)) (by decide)) (by decide)⟩) hS
      · skip
        have kl6 : (6 : Int32).toInt = 6 := by decide
        have f33 := i_eq c33
        have hv30_33l : iv v30 6 6 := iv_eql hv30 (iv_c (x := (6 : Int32)) (k := 6) (by decide)) c33 (by decide)
        refine lv_bipush (v := (-3)) hx hb dX10_lend_36 (by decide) ?_
        exact ret _ _ _ _ _ dX10_lend_38 (⟨hT, iv_w (iv_c (x := (-3 : Int32)) (k := (-3)) (by decide)) (by decide)⟩) hS
    · skip
      have f18 := i_eq c18
      have hv15_18l : iv v15 0 0 := iv_eql hv15 (iv_c (x := (0 : Int32)) (k := 0) (by decide)) c18 (by decide)
      refine lv_bipush (v := (-2)) hx hb dX10_lend_21 (by decide) ?_
      exact ret _ _ _ _ _ dX10_lend_23 (⟨hT, iv_w (iv_c (x := (-2 : Int32)) (k := (-2)) (by decide)) (by decide)⟩) hS
set_option maxHeartbeats 4000000 in
set_option maxRecDepth 100000 in
theorem t_X10_round (l : Launch) {D : va_G} {c0 : Nat → ClassId} {Y : Nat → Option Nat} {ν : Nat → Nat} {H : Heap} (hT : TI D vwCl (tysOf c0) (RTg ν) Y H) {a0 : Nat} (ha0 : Y a0 = some 10) {x1 : Int32} (hx1 : iv x1 (-2147483648) 2147483647) {x2 : Int32} (hx2 : iv x2 (-2147483648) 2147483647) (hν3 : ν 3 = 0) (hν5 : ν 5 = 0) (hU : uq Y) : Met l yX10_round (wz yX10_round cX10_round 4 (some .int)) { frames := 7, cells := 0, slots := 0, locals := 171 } (TP D vwCl (tysOf c0) H [.ref a0, .int x1, .int x2]) (TQi (fun x H' => TI D vwCl (tysOf c0) (RTg ν) Y H' ∧ iv x (-2) 30) Y [10, 30, 41, 42]) 0 0 (pW Y [10, 30, 41, 42]) := by
  refine Met.ofW (cc := cX10_round) (maxL := 4) (ret := (some .int)) (by decide) rfl ?_
  intro p e s m args below meth c s₁ B hml hv
  obtain ⟨rfl, rfl, hK⟩ := hv
  have hx := B.exec
  have hb := B.bytes
  have hr := B.returns
  have hts : ∀ w ∈ wq, w.before _ s = true := fun w h => atoms_spec (ws := wz yX10_round cX10_round 4 (some .int)) B.pre w (List.mem_cons_of_mem _ h)
  have hown : s.vm.findClass RX10 = some m.cls := findClass_of_methodNamed B.named
  have hlocks := B.notSynchronized
  obtain ⟨R, hR⟩ : ∃ R : Room, R = ({ frames := 7, cells := 0, slots := 0, locals := 171 } : Room) := ⟨_, rfl⟩
  rw [show (headSpec (wz yX10_round cX10_round 4 (some .int)) { frames := 7, cells := 0, slots := 0, locals := 171 }).room = R from hR.symm]
  refine ti_mi hx hb hr hlocks (fun Q ret => ?_)
  have hl := lv_entry [.ref a0, .int x1, .int x2] (n := 4) (Nat.le_of_ble_eq_true rfl)
  rw [lg_entry_eq]
  generalize (lg_sl [.ref a0, .int x1, .int x2] ++ List.replicate (4 - (lg_sl [.ref a0, .int x1, .int x2]).length) Slot.unset).toArray = ls at hl ⊢
  have hl : lv_has ls 4 [(0, .ref a0), (1, .int x1), (2, .int x2)] := hl
  refine ti_gen (P := fun H => TI D vwCl (tysOf c0) (RTg ν) Y H) (Y := Y) (ws := [10, 30, 41, 42]) hT (fun H locs hT hS => ?_)
  refine lv_aload_n hx hb dX10_round_0 rfl (lv_at hl 0 rfl) ?_
  refine lv_iload_n hx hb dX10_round_1 rfl (lv_at hl 1 rfl) ?_
  refine lv_iload_n hx hb dX10_round_2 rfl (lv_at hl 2 rfl) ?_
  refine ti_calli (va_runV (As := [.int x1, .int x2]) (rest := []) ⟨hx, hb, hml, hown, hts⟩ (t_X10_areTwo l hT ha0 (iv_w hx1 (by decide)) (iv_w hx2 (by decide)) hU) (cwV 2 hts (good_V kw_545 kw_546 kw_547 kw_5 kw_548) rfl rfl rfl (by decide +kernel) ⟨by rw [hR]; decide, by rw [hR]; decide⟩) (ti_preV hK hT ha0 rfl rfl) rfl rfl hl.1 rfl (lv_room (Nat.le_of_ble_eq_true rfl)) dX10_round_3 ⟨Nat.zero_le _, Nat.zero_le _⟩) hS (pW_sub rfl) (fun v3 H1 locs hB hS _ hk3 => ?_)
  obtain ⟨hH, hv3, hp3⟩ := hB
  rw [hH] at hS ⊢
  refine lv_if_ne (tgt := 12) hx hb dX10_round_6 (by decide) (fun c6 => ?_) (fun c6 => ?_)
  · skip
    have kl0 : (0 : Int32).toInt = 0 := by decide
    have f6 := i_ne c6
    have hv3_6l : iv v3 1 1 := iv_nel hv3 (iv_c (x := (0 : Int32)) (k := 0) (by decide)) c6 (by decide)
    have hx1_6p : iv x1 0 7 := by have b0a := (hx1).1; have b0b := (hx1).2; exact ⟨by omega, by omega⟩
    have hx2_6p : iv x2 0 7 := by have b0a := (hx2).1; have b0b := (hx2).2; exact ⟨by omega, by omega⟩
    refine lv_iconst (v := 1) hx hb dX10_round_12 (by decide) ?_
    have J14 : ∀ (n : Nat) (j14_L3 : Int32) (H : Heap) (locs : List Loc) (ls : Array Slot), (31 - j14_L3.toInt).toNat < n → iv j14_L3 1 31 → TI D vwCl (tysOf c0) (RTg ν) Y H → va_S (pW Y [10, 30, 41, 42]) s.heap H locs → lv_has ls 4 [(0, .ref a0), (1, .int x1), (2, .int x2), (3, .int j14_L3)] → W p l e R s m ([.ref a0, .int x1, .int x2] : List Value).toArray below meth c H locs 0 0 Q (F0 m 14 ls []) := by
      intro n
      induction n with
      | zero => intro j14_L3 H locs ls hms; exact absurd hms (Nat.not_lt_zero _)
      | succ n ih14 =>
        intro j14_L3 H locs ls hms14 hj14_L3 hT hS hl
        refine lv_iload_n hx hb dX10_round_14 rfl (lv_at hl 3 rfl) ?_
        refine lv_bipush (v := 30) hx hb dX10_round_15 (by decide) ?_
        refine lv_icmp_gt (tgt := 60) hx hb dX10_round_17 (by decide) (fun c17 => ?_) (fun c17 => ?_)
        · skip
          have kl30 : (30 : Int32).toInt = 30 := by decide
          have f17 := i_lt c17
          have hj14_L3_17r : iv j14_L3 31 31 := iv_ltr (iv_c (x := (30 : Int32)) (k := 30) (by decide)) hj14_L3 c17 (by decide)
          refine lv_iconst (v := (-1)) hx hb dX10_round_60 (by decide) ?_
          exact ret _ _ _ _ _ dX10_round_61 (⟨hT, iv_w (iv_c (x := (-1 : Int32)) (k := (-1)) (by decide)) (by decide)⟩) hS
        · skip
          have kl30 : (30 : Int32).toInt = 30 := by decide
          have f17 := i_nlt c17
          have hj14_L3_17l : iv j14_L3 1 30 := iv_lel hj14_L3 (iv_c (x := (30 : Int32)) (k := 30) (by decide)) (Int32.not_lt.mp c17) (by decide)
          refine lv_aload_n hx hb dX10_round_20 rfl (lv_at hl 0 rfl) ?_
          refine lv_iload_n hx hb dX10_round_21 rfl (lv_at hl 1 rfl) ?_
          refine lv_iload_n hx hb dX10_round_22 rfl (lv_at hl 2 rfl) ?_
          refine lv_iload_n hx hb dX10_round_23 rfl (lv_at hl 3 rfl) ?_
          refine ti_calli (va_runV (As := [.int x1, .int x2, .int j14_L3]) (rest := []) ⟨hx, hb, hml, hown, hts⟩ (t_X10_canLend l hT ha0 (iv_w hx1_6p (by decide)) (iv_w hx2_6p (by decide)) (iv_w hj14_L3_17l (by decide)) hU) (cwV 3 hts (good_V kw_1313 kw_1314 kw_1315 kw_5 kw_1316) rfl rfl rfl (by decide +kernel) ⟨by rw [hR]; decide, by rw [hR]; decide⟩) (ti_preV hK hT ha0 rfl rfl) rfl rfl hl.1 rfl (lv_room (Nat.le_of_ble_eq_true rfl)) dX10_round_24 ⟨Nat.zero_le _, Nat.zero_le _⟩) hS (pW_sub rfl) (fun v24 H1 locs hB hS _ hk24 => ?_)
          obtain ⟨hH, hv24⟩ := hB
          rw [hH] at hS ⊢
          have J54 : ∀  (H : Heap) (locs : List Loc) (ls : Array Slot), TI D vwCl (tysOf c0) (RTg ν) Y H → va_S (pW Y [10, 30, 41, 42]) s.heap H locs → lv_has ls 4 [(0, .ref a0), (1, .int x1), (2, .int x2), (3, .int j14_L3)] → W p l e R s m ([.ref a0, .int x1, .int x2] : List Value).toArray below meth c H locs 0 0 Q (F0 m 54 ls []) := by
            intro  H locs ls  hT hS hl
            obtain ⟨v54, e54⟩ : ∃ y : Int32, y = j14_L3 + 1 := ⟨_, rfl⟩
            have hv54 : iv v54 2 31 := by rw [e54]; exact iv_w (iv_add hj14_L3_17l (iv_c (x := (1 : Int32)) (k := 1) (by decide)) (by decide)) (by decide)
            have s54 : v54.toInt = j14_L3.toInt + 1 := by rw [e54, iv_addE hj14_L3_17l (iv_c (x := (1 : Int32)) (k := 1) (by decide)) (by decide)]; rfl
            refine lv_iinc (v := v54) (lv' := [(3, .int v54), (0, .ref a0), (1, .int x1), (2, .int x2)]) hx hb dX10_round_54 hl (k := 3) rfl (by rw [e54]; rfl) (by decide) rfl (fun ls hl => ?_)
            refine lv_goto (tgt := 14) hx hb dX10_round_57 (by decide) ?_
            exact ih14 v54 _ _ _ (ms_up hms14 (by have := s54; omega) (iv_w (c := 2) (d := 31) hv54 (by decide)).2) (iv_w hv54 (by decide)) hT hS (lv_sub hl [1, 2, 3, 0] rfl)
          refine lv_if_eq (tgt := 54) hx hb dX10_round_27 (by decide) (fun c27 => ?_) (fun c27 => ?_)
          · skip
            have f27 := i_eq c27
            have hv24_27l : iv v24 0 0 := iv_eql hv24 (iv_c (x := (0 : Int32)) (k := 0) (by decide)) c27 (by decide)
            exact J54  _ _ _   hT hS (lv_sub hl [0, 1, 2, 3] rfl)
          · skip
            have f27 := i_ne c27
            have hv24_27l : iv v24 1 1 := iv_nel hv24 (iv_c (x := (0 : Int32)) (k := 0) (by decide)) c27 (by decide)
            refine lv_aload_n hx hb dX10_round_30 rfl (lv_at hl 0 rfl) ?_
            refine lv_iload_n hx hb dX10_round_31 rfl (lv_at hl 1 rfl) ?_
            refine lv_iload_n hx hb dX10_round_32 rfl (lv_at hl 2 rfl) ?_
            refine lv_iload_n hx hb dX10_round_33 rfl (lv_at hl 3 rfl) ?_
            refine lv_iload_n hx hb dX10_round_34 rfl (lv_at hl 1 rfl) ?_
            refine ti_calli (va_runV (As := [.int x1, .int x2, .int j14_L3, .int x1]) (rest := []) ⟨hx, hb, hml, hown, hts⟩ (t_X10_losesBy l hT ha0 (iv_w hx1_6p (by decide)) (iv_w hx2_6p (by decide)) (iv_w hj14_L3_17l (by decide)) (iv_w hx1_6p (by decide)) hν3 hν5 hU) (cwV 4 hts (good_V kw_1058 kw_1059 kw_1060 kw_5 kw_1061) rfl rfl rfl (by decide +kernel) ⟨by rw [hR]; decide, by rw [hR]; decide⟩) (ti_preV hK hT ha0 rfl rfl) rfl rfl hl.1 rfl (lv_room (Nat.le_of_ble_eq_true rfl)) dX10_round_35 ⟨Nat.zero_le _, Nat.zero_le _⟩) hS (pW_sub rfl) (fun v35 H locs hB hS _ hk35 => ?_)
            obtain ⟨hT, hv35⟩ := hB
            refine lv_if_ne (tgt := 54) hx hb dX10_round_38 (by decide) (fun c38 => ?_) (fun c38 => ?_)
            · skip
              have f38 := i_ne c38
              have hv35_38l : iv v35 1 1 := iv_nel hv35 (iv_c (x := (0 : Int32)) (k := 0) (by decide)) c38 (by decide)
              exact J54  _ _ _   hT hS (lv_sub hl [0, 1, 2, 3] rfl)
            · skip
              have f38 := i_eq c38
              have hv35_38l : iv v35 0 0 := iv_eql hv35 (iv_c (x := (0 : Int32)) (k := 0) (by decide)) c38 (by decide)
              refine lv_aload_n hx hb dX10_round_41 rfl (lv_at hl 0 rfl) ?_
              refine lv_iload_n hx hb dX10_round_42 rfl (lv_at hl 1 rfl) ?_
              refine lv_iload_n hx hb dX10_round_43 rfl (lv_at hl 2 rfl) ?_
              refine lv_iload_n hx hb dX10_round_44 rfl (lv_at hl 3 rfl) ?_
              refine lv_iload_n hx hb dX10_round_45 rfl (lv_at hl 2 rfl) ?_
              refine ti_calli (va_runV (As := [.int x1, .int x2, .int j14_L3, .int x2]) (rest := []) ⟨hx, hb, hml, hown, hts⟩ (t_X10_losesBy l hT ha0 (iv_w hx1_6p (by decide)) (iv_w hx2_6p (by decide)) (iv_w hj14_L3_17l (by decide)) (iv_w hx2_6p (by decide)) hν3 hν5 hU) (cwV 4 hts (good_V kw_1058 kw_1059 kw_1060 kw_5 kw_1061) rfl rfl rfl (by decide +kernel) ⟨by rw [hR]; decide, by rw [hR]; decide⟩) (ti_preV hK hT ha0 rfl rfl) rfl rfl hl.1 rfl (lv_room (Nat.le_of_ble_eq_true rfl)) dX10_round_46 ⟨Nat.zero_le _, Nat.zero_le _⟩) hS (pW_sub rfl) (fun v46 H locs hB hS _ hk46 => ?_)
              obtain ⟨hT, hv46⟩ := hB
              refine lv_if_ne (tgt := 54) hx hb dX10_round_49 (by decide) (fun c49 => ?_) (fun c49 => ?_)
              · skip
                have f49 := i_ne c49
                have hv46_49l : iv v46 1 1 := iv_nel hv46 (iv_c (x := (0 : Int32)) (k := 0) (by decide)) c49 (by decide)
                exact J54  _ _ _   hT hS (lv_sub hl [0, 1, 2, 3] rfl)
              · skip
                have f49 := i_eq c49
                have hv46_49l : iv v46 0 0 := iv_eql hv46 (iv_c (x := (0 : Int32)) (k := 0) (by decide)) c49 (by decide)
                refine lv_iload_n hx hb dX10_round_52 rfl (lv_at hl 3 rfl) ?_
                exact ret _ _ _ _ _ dX10_round_53 (⟨hT, iv_w hj14_L3_17l (by decide)⟩) hS
    refine lv_istore_n (lv' := [(3, .int (1 : Int32)), (0, .ref a0), (1, .int x1), (2, .int x2)]) hx hb dX10_round_13 rfl hl (by decide) rfl (fun ls hl => ?_)
    exact J14 _ (1 : Int32) _ _ _ (Nat.lt_succ_self _) (iv_w (iv_c (x := (1 : Int32)) (k := 1) (by decide)) (by decide)) hT hS (lv_sub hl [1, 2, 3, 0] rfl)
  · skip
    have kl0 : (0 : Int32).toInt = 0 := by decide
    have f6 := i_eq c6
    have hv3_6l : iv v3 0 0 := iv_eql hv3 (iv_c (x := (0 : Int32)) (k := 0) (by decide)) c6 (by decide)
    refine lv_bipush (v := (-2)) hx hb dX10_round_9 (by decide) ?_
    exact ret _ _ _ _ _ dX10_round_11 (⟨hT, iv_w (iv_c (x := (-2 : Int32)) (k := (-2)) (by decide)) (by decide)⟩) hS
set_option maxHeartbeats 4000000 in
set_option maxRecDepth 100000 in
theorem t_X10_canHide (l : Launch) {D : va_G} {c0 : Nat → ClassId} {Y : Nat → Option Nat} {ν : Nat → Nat} {H : Heap} (hT : TI D vwCl (tysOf c0) (RTg ν) Y H) {a0 : Nat} (ha0 : Y a0 = some 10) {x1 : Int32} (hx1 : iv x1 (-2147483648) 2147483647) {x2 : Int32} (hx2 : iv x2 (-2147483648) 2147483647) (hU : uq Y) : Met l yX10_canHide (wz yX10_canHide cX10_canHide 3 (some .boolean)) { frames := 2, cells := 0, slots := 0, locals := 46 } (TP D vwCl (tysOf c0) H [.ref a0, .int x1, .int x2]) (TQi (fun x H' => H' = H ∧ iv x 0 1 ∧ ((x.toInt = 0 ∨ (0 ≤ x1.toInt ∧ x1.toInt ≤ 7)))) Y []) 0 0 (pW Y []) := by
  refine Met.ofW (cc := cX10_canHide) (maxL := 3) (ret := (some .boolean)) (by decide) rfl ?_
  intro p e s m args below meth c s₁ B hml hv
  obtain ⟨rfl, rfl, hK⟩ := hv
  have hx := B.exec
  have hb := B.bytes
  have hr := B.returns
  have hts : ∀ w ∈ wq, w.before _ s = true := fun w h => atoms_spec (ws := wz yX10_canHide cX10_canHide 3 (some .boolean)) B.pre w (List.mem_cons_of_mem _ h)
  have hown : s.vm.findClass RX10 = some m.cls := findClass_of_methodNamed B.named
  have hlocks := B.notSynchronized
  obtain ⟨R, hR⟩ : ∃ R : Room, R = ({ frames := 2, cells := 0, slots := 0, locals := 46 } : Room) := ⟨_, rfl⟩
  rw [show (headSpec (wz yX10_canHide cX10_canHide 3 (some .boolean)) { frames := 2, cells := 0, slots := 0, locals := 46 }).room = R from hR.symm]
  refine ti_mz hx hb hr hlocks (fun Q ret => ?_)
  have hl := lv_entry [.ref a0, .int x1, .int x2] (n := 3) (Nat.le_of_ble_eq_true rfl)
  rw [lg_entry_eq]
  generalize (lg_sl [.ref a0, .int x1, .int x2] ++ List.replicate (3 - (lg_sl [.ref a0, .int x1, .int x2]).length) Slot.unset).toArray = ls at hl ⊢
  have hl : lv_has ls 3 [(0, .ref a0), (1, .int x1), (2, .int x2)] := hl
  have hS : va_S (pW Y []) s.heap s.heap [] := va_S.rf
  refine lv_aload_n hx hb dX10_canHide_0 rfl (lv_at hl 0 rfl) ?_
  refine lv_iload_n hx hb dX10_canHide_1 rfl (lv_at hl 1 rfl) ?_
  refine ti_calli (va_runV (As := [.int x1]) (rest := []) ⟨hx, hb, hml, hown, hts⟩ (t_X10_isPerson l hT ha0 (iv_w hx1 (by decide)) hU) (cwV 1 hts (good_V kw_486 kw_487 kw_488 kw_5 kw_489) rfl rfl rfl (by decide +kernel) ⟨by rw [hR]; decide, by rw [hR]; decide⟩) (ti_preV hK hT ha0 rfl rfl) rfl rfl hl.1 rfl (lv_room (Nat.le_of_ble_eq_true rfl)) dX10_canHide_2 ⟨Nat.zero_le _, Nat.zero_le _⟩) hS (pW_sub rfl) (fun v2 H1 locs hB hS _ hk2 => ?_)
  obtain ⟨hH, hv2, hp2⟩ := hB
  rw [hH] at hS ⊢
  refine lv_if_eq (tgt := 28) hx hb dX10_canHide_5 (by decide) (fun c5 => ?_) (fun c5 => ?_)
  · skip
    have kl0 : (0 : Int32).toInt = 0 := by decide
    have f5 := i_eq c5
    have hv2_5l : iv v2 0 0 := iv_eql hv2 (iv_c (x := (0 : Int32)) (k := 0) (by decide)) c5 (by decide)
    refine lv_iconst (v := 0) hx hb dX10_canHide_28 (by decide) ?_
    exact ret _ _ _ _ _ dX10_canHide_29 (iv_w (iv_c (x := (0 : Int32)) (k := 0) (by decide)) (by decide)) (⟨rfl, iv_w (iv_c (x := (0 : Int32)) (k := 0) (by decide)) (by decide), by have b0a := (hx1).1; have b0b := (hx1).2; have b1a := (hx2).1; have b1b := (hx2).2; have b2a := (hv2_5l).1; have b2b := (hv2_5l).2; omega⟩) hS
  · skip
    have kl0 : (0 : Int32).toInt = 0 := by decide
    have f5 := i_ne c5
    have hv2_5l : iv v2 1 1 := iv_nel hv2 (iv_c (x := (0 : Int32)) (k := 0) (by decide)) c5 (by decide)
    have hx1_5p : iv x1 0 7 := by have b0a := (hx1).1; have b0b := (hx1).2; exact ⟨by omega, by omega⟩
    refine lv_iload_n hx hb dX10_canHide_8 rfl (lv_at hl 2 rfl) ?_
    refine lv_i2l hx hb dX10_canHide_9 rfl ?_
    refine lv_topl (fun v9 e9 => ?_)
    have hv9 : jv v9 (-2147483648) 2147483647 := by rw [e9]; exact jv_i hx2
    have t9 : v9.toInt = x2.toInt := by rw [e9]; exact jv_e _
    refine lv_lconst (v := 0) hx hb dX10_canHide_10 (by decide) ?_
    have kj0 : (0 : Int64).toInt = 0 := by decide
    refine lv_aload_n hx hb dX10_canHide_11 rfl (lv_at hl 0 rfl) ?_
    refine lv_iload_n hx hb dX10_canHide_12 rfl (lv_at hl 1 rfl) ?_
    refine lv_iconst (v := 0) hx hb dX10_canHide_13 (by decide) ?_
    refine ti_calli (va_runV (As := [.int x1, .int (0 : Int32)]) (rest := [.long (0 : Int64), .long v9]) ⟨hx, hb, hml, hown, hts⟩ (t_X10_of l hT ha0 (iv_w hx1_5p (by decide)) (iv_w (iv_c (x := (0 : Int32)) (k := 0) (by decide)) (by decide)) hU) (cwV 2 hts (good_V kw_490 kw_491 kw_492 kw_5 kw_493) rfl rfl rfl (by decide +kernel) ⟨by rw [hR]; decide, by rw [hR]; decide⟩) (ti_preV hK hT ha0 rfl rfl) rfl rfl hl.1 rfl (lv_room (Nat.le_of_ble_eq_true rfl)) dX10_canHide_14 ⟨Nat.zero_le _, Nat.zero_le _⟩) hS (pW_sub rfl) (fun v14 H1 locs hB hS _ hk14 => ?_)
    obtain ⟨hH, hp14⟩ := hB
    rw [hH] at hS ⊢
    have hf14 : iv v14 (-2147483648) 100000 := by have b0a := ((iv_top v14)).1; have b0b := ((iv_top v14)).2; exact ⟨by omega, by omega⟩
    refine lv_i2l hx hb dX10_canHide_17 rfl ?_
    refine lv_topl (fun v17 e17 => ?_)
    have hv17 : jv v17 (-2147483648) 100000 := by rw [e17]; exact jv_i hf14
    have t17 : v17.toInt = v14.toInt := by rw [e17]; exact jv_e _
    refine ti_calli (va_runS (As := [.long v9, .long (0 : Int64), .long v17]) (rest := []) ⟨hx, hb, hml, hown, hts⟩ (t_X10_in l hT (jv_w hv9 (by decide)) (jv_w (jv_c (x := (0 : Int64)) (k := 0) (by decide)) (by decide)) (jv_w hv17 (by decide))) (cwS 3 hts (good_S kw_181 kw_182 kw_5 kw_183) rfl rfl rfl (by decide +kernel) ⟨by rw [hR]; decide, by rw [hR]; decide⟩) (ti_preS hK) rfl rfl hl.1 rfl (lv_room (Nat.le_of_ble_eq_true rfl)) dX10_canHide_18 ⟨Nat.zero_le _, Nat.zero_le _⟩) hS (pW_sub rfl) (fun v18 H1 locs hB hS _ hk18 => ?_)
    obtain ⟨hH, hv18, hp18⟩ := hB
    rw [hH] at hS ⊢
    refine lv_if_eq (tgt := 28) hx hb dX10_canHide_21 (by decide) (fun c21 => ?_) (fun c21 => ?_)
    · skip
      have f21 := i_eq c21
      have hv18_21l : iv v18 0 0 := iv_eql hv18 (iv_c (x := (0 : Int32)) (k := 0) (by decide)) c21 (by decide)
      refine lv_iconst (v := 0) hx hb dX10_canHide_28 (by decide) ?_
      exact ret _ _ _ _ _ dX10_canHide_29 (iv_w (iv_c (x := (0 : Int32)) (k := 0) (by decide)) (by decide)) (⟨rfl, iv_w (iv_c (x := (0 : Int32)) (k := 0) (by decide)) (by decide), by have b0a := (hx1_5p).1; have b0b := (hx1_5p).2; have b1a := (hx2).1; have b1b := (hx2).2; have b2a := (hv2_5l).1; have b2b := (hv2_5l).2; have b3a := (hv9).1; have b3b := (hv9).2; have b4a := (hf14).1; have b4b := (hf14).2; have b5a := (hv17).1; have b5b := (hv17).2; have b6a := (hv18_21l).1; have b6b := (hv18_21l).2; omega⟩) hS
    · skip
      have f21 := i_ne c21
      have hv18_21l : iv v18 1 1 := iv_nel hv18 (iv_c (x := (0 : Int32)) (k := 0) (by decide)) c21 (by decide)
      have hv9_21p : jv v9 0 100000 := by have b0a := (hv9).1; have b0b := (hv9).2; have b1a := ((jv_c (x := (0 : Int64)) (k := 0) (by decide))).1; have b1b := ((jv_c (x := (0 : Int64)) (k := 0) (by decide))).2; have b2a := (hv17).1; have b2b := (hv17).2; exact ⟨by omega, by omega⟩
      have hx2_21p : iv x2 0 100000 := by have := t9; have b0a := (hv9_21p).1; have b0b := (hv9_21p).2; have b1a := (hx2).1; have b1b := (hx2).2; exact ⟨by omega, by omega⟩
      refine lv_iconst (v := 1) hx hb dX10_canHide_24 (by decide) ?_
      refine lv_goto (tgt := 29) hx hb dX10_canHide_25 (by decide) ?_
      have kl1 : (1 : Int32).toInt = 1 := by decide
      exact ret _ _ _ _ _ dX10_canHide_29 (iv_w (iv_c (x := (1 : Int32)) (k := 1) (by decide)) (by decide)) (⟨rfl, iv_w (iv_c (x := (1 : Int32)) (k := 1) (by decide)) (by decide), by have b0a := (hx1_5p).1; have b0b := (hx1_5p).2; have b1a := (hx2_21p).1; have b1b := (hx2_21p).2; have b2a := (hv2_5l).1; have b2b := (hv2_5l).2; have b3a := (hv9_21p).1; have b3b := (hv9_21p).2; have b4a := (hf14).1; have b4b := (hf14).2; have b5a := (hv17).1; have b5b := (hv17).2; have b6a := (hv18_21l).1; have b6b := (hv18_21l).2; omega⟩) hS
set_option maxHeartbeats 4000000 in
set_option maxRecDepth 100000 in
theorem t_X10_haveAsBefore (l : Launch) {D : va_G} {c0 : Nat → ClassId} {Y : Nat → Option Nat} {ν : Nat → Nat} {H : Heap} (hT : TI D vwCl (tysOf c0) (RTg ν) Y H) {a0 : Nat} (ha0 : Y a0 = some 10) (hU : uq Y) : Met l yX10_haveAsBefore (wz yX10_haveAsBefore cX10_haveAsBefore 2 (some .boolean)) { frames := 1, cells := 0, slots := 0, locals := 22 } (TP D vwCl (tysOf c0) H [.ref a0]) (TQi (fun x H' => H' = H ∧ iv x 0 1) Y []) 0 0 (pW Y []) := by
  refine Met.ofW (cc := cX10_haveAsBefore) (maxL := 2) (ret := (some .boolean)) (by decide) rfl ?_
  intro p e s m args below meth c s₁ B hml hv
  obtain ⟨rfl, rfl, hK⟩ := hv
  have hx := B.exec
  have hb := B.bytes
  have hr := B.returns
  have hts : ∀ w ∈ wq, w.before _ s = true := fun w h => atoms_spec (ws := wz yX10_haveAsBefore cX10_haveAsBefore 2 (some .boolean)) B.pre w (List.mem_cons_of_mem _ h)
  have hown : s.vm.findClass RX10 = some m.cls := findClass_of_methodNamed B.named
  have hlocks := B.notSynchronized
  obtain ⟨R, hR⟩ : ∃ R : Room, R = ({ frames := 1, cells := 0, slots := 0, locals := 22 } : Room) := ⟨_, rfl⟩
  rw [show (headSpec (wz yX10_haveAsBefore cX10_haveAsBefore 2 (some .boolean)) { frames := 1, cells := 0, slots := 0, locals := 22 }).room = R from hR.symm]
  refine ti_mz hx hb hr hlocks (fun Q ret => ?_)
  have hl := lv_entry [.ref a0] (n := 2) (Nat.le_of_ble_eq_true rfl)
  rw [lg_entry_eq]
  generalize (lg_sl [.ref a0] ++ List.replicate (2 - (lg_sl [.ref a0]).length) Slot.unset).toArray = ls at hl ⊢
  have hl : lv_has ls 2 [(0, .ref a0)] := hl
  have hS : va_S (pW Y []) s.heap s.heap [] := va_S.rf
  refine lv_iconst (v := 0) hx hb dX10_haveAsBefore_0 (by decide) ?_
  have J2 : ∀ (n : Nat) (j2_L1 : Int32) (locs : List Loc) (ls : Array Slot), (8 - j2_L1.toInt).toNat < n → iv j2_L1 0 8 → va_S (pW Y []) s.heap s.heap locs → lv_has ls 2 [(0, .ref a0), (1, .int j2_L1)] → W p l e R s m ([.ref a0] : List Value).toArray below meth c s.heap locs 0 0 Q (F0 m 2 ls []) := by
    intro n
    induction n with
    | zero => intro j2_L1 locs ls hms; exact absurd hms (Nat.not_lt_zero _)
    | succ n ih2 =>
      intro j2_L1 locs ls hms2 hj2_L1 hS hl
      refine lv_iload_n hx hb dX10_haveAsBefore_2 rfl (lv_at hl 1 rfl) ?_
      refine lv_aload_n hx hb dX10_haveAsBefore_3 rfl (lv_at hl 0 rfl) ?_
      refine ti_calli (va_runV (As := []) (rest := [.int j2_L1]) ⟨hx, hb, hml, hown, hts⟩ (t_X10_people l hT ha0 hU) (cwV 0 hts (good_V kw_605 kw_606 kw_607 kw_5 kw_608) rfl rfl rfl (by decide +kernel) ⟨by rw [hR]; decide, by rw [hR]; decide⟩) (ti_preV hK hT ha0 rfl rfl) rfl rfl hl.1 rfl (lv_room (Nat.le_of_ble_eq_true rfl)) dX10_haveAsBefore_4 ⟨Nat.zero_le _, Nat.zero_le _⟩) hS (pW_sub rfl) (fun v4 H1 locs hB hS _ hk4 => ?_)
      obtain ⟨hH, hv4, hp4⟩ := hB
      rw [hH] at hS ⊢
      refine lv_icmp_ge (tgt := 33) hx hb dX10_haveAsBefore_7 (by decide) (fun c7 => ?_) (fun c7 => ?_)
      · skip
        have f7 := i_le c7
        refine lv_iconst (v := 1) hx hb dX10_haveAsBefore_33 (by decide) ?_
        exact ret _ _ _ _ _ dX10_haveAsBefore_34 (iv_w (iv_c (x := (1 : Int32)) (k := 1) (by decide)) (by decide)) (⟨rfl, iv_w (iv_c (x := (1 : Int32)) (k := 1) (by decide)) (by decide)⟩) hS
      · skip
        have f7 := i_nle c7
        have hj2_L1_7l : iv j2_L1 0 7 := iv_ltl hj2_L1 hv4 (Int32.not_le.mp c7) (by decide)
        have hv4_7r : iv v4 1 8 := iv_ltr hj2_L1_7l hv4 (Int32.not_le.mp c7) (by decide)
        refine lv_aload_n hx hb dX10_haveAsBefore_10 rfl (lv_at hl 0 rfl) ?_
        refine lv_iload_n hx hb dX10_haveAsBefore_11 rfl (lv_at hl 1 rfl) ?_
        refine lv_iconst (v := 0) hx hb dX10_haveAsBefore_12 (by decide) ?_
        refine ti_calli (va_runV (As := [.int j2_L1, .int (0 : Int32)]) (rest := []) ⟨hx, hb, hml, hown, hts⟩ (t_X10_of l hT ha0 (iv_w hj2_L1_7l (by decide)) (iv_w (iv_c (x := (0 : Int32)) (k := 0) (by decide)) (by decide)) hU) (cwV 2 hts (good_V kw_490 kw_491 kw_492 kw_5 kw_493) rfl rfl rfl (by decide +kernel) ⟨by rw [hR]; decide, by rw [hR]; decide⟩) (ti_preV hK hT ha0 rfl rfl) rfl rfl hl.1 rfl (lv_room (Nat.le_of_ble_eq_true rfl)) dX10_haveAsBefore_13 ⟨Nat.zero_le _, Nat.zero_le _⟩) hS (pW_sub rfl) (fun v13 H1 locs hB hS _ hk13 => ?_)
        obtain ⟨hH, hp13⟩ := hB
        rw [hH] at hS ⊢
        have kl0 : (0 : Int32).toInt = 0 := by decide
        have hf13 : iv v13 (-2147483648) 100000 := by have b0a := ((iv_top v13)).1; have b0b := ((iv_top v13)).2; exact ⟨by omega, by omega⟩
        refine lv_aload_n hx hb dX10_haveAsBefore_16 rfl (lv_at hl 0 rfl) ?_
        refine ti_getr hx hb hts inlX10 hown hK hT ha0 rfl rfl rfl 29 (by decide) (hts _ kw_146) (fun _ h9 => h9) rfl dX10_haveAsBefore_17 (fun v17 hv17 hm17 => ?_)
        refine lv_iload_n hx hb dX10_haveAsBefore_20 rfl (lv_at hl 1 rfl) ?_
        refine ti_iald (lo := (-2147483648)) (hi := 2147483647) hx hb (aT0 hK) hT hv17 rfl hj2_L1_7l (by decide) (fun _ _ _ => ⟨_, _, rfl, by decide, by decide⟩) dX10_haveAsBefore_21 (fun v21 hv21 hm21 => ?_)
        refine lv_icmp_eq (tgt := 27) hx hb dX10_haveAsBefore_22 (by decide) (fun c22 => ?_) (fun c22 => ?_)
        · skip
          have f22 := i_eq c22
          have hv21_22r : iv v21 (-2147483648) 100000 := iv_eql hv21 hf13 (Eq.symm c22) (by decide)
          obtain ⟨v27, e27⟩ : ∃ y : Int32, y = j2_L1 + 1 := ⟨_, rfl⟩
          have hv27 : iv v27 1 8 := by rw [e27]; exact iv_w (iv_add hj2_L1_7l (iv_c (x := (1 : Int32)) (k := 1) (by decide)) (by decide)) (by decide)
          have s27 : v27.toInt = j2_L1.toInt + 1 := by rw [e27, iv_addE hj2_L1_7l (iv_c (x := (1 : Int32)) (k := 1) (by decide)) (by decide)]; rfl
          refine lv_iinc (v := v27) (lv' := [(1, .int v27), (0, .ref a0)]) hx hb dX10_haveAsBefore_27 hl (k := 1) rfl (by rw [e27]; rfl) (by decide) rfl (fun ls hl => ?_)
          refine lv_goto (tgt := 2) hx hb dX10_haveAsBefore_30 (by decide) ?_
          exact ih2 v27 _ _ (ms_up hms2 (by have := s27; omega) (iv_w (c := 1) (d := 8) hv27 (by decide)).2) (iv_w hv27 (by decide))  hS (lv_sub hl [1, 0] rfl)
        · skip
          have f22 := i_ne c22
          refine lv_iconst (v := 0) hx hb dX10_haveAsBefore_25 (by decide) ?_
          exact ret _ _ _ _ _ dX10_haveAsBefore_26 (iv_w (iv_c (x := (0 : Int32)) (k := 0) (by decide)) (by decide)) (⟨rfl, iv_w (iv_c (x := (0 : Int32)) (k := 0) (by decide)) (by decide)⟩) hS
  refine lv_istore_n (lv' := [(1, .int (0 : Int32)), (0, .ref a0)]) hx hb dX10_haveAsBefore_1 rfl hl (by decide) rfl (fun ls hl => ?_)
  exact J2 _ (0 : Int32) _ _ (Nat.lt_succ_self _) (iv_w (iv_c (x := (0 : Int32)) (k := 0) (by decide)) (by decide))  hS (lv_sub hl [1, 0] rfl)
set_option maxHeartbeats 4000000 in
set_option maxRecDepth 100000 in
theorem t_X10_areAlike (l : Launch) {D : va_G} {c0 : Nat → ClassId} {Y : Nat → Option Nat} {ν : Nat → Nat} {H : Heap} (hT : TI D vwCl (tysOf c0) (RTg ν) Y H) {a0 : Nat} (ha0 : Y a0 = some 10) (hU : uq Y) : Met l yX10_areAlike (wz yX10_areAlike cX10_areAlike 2 (some .boolean)) { frames := 1, cells := 0, slots := 0, locals := 22 } (TP D vwCl (tysOf c0) H [.ref a0]) (TQi (fun x H' => H' = H ∧ iv x 0 1) Y []) 0 0 (pW Y []) := by
  refine Met.ofW (cc := cX10_areAlike) (maxL := 2) (ret := (some .boolean)) (by decide) rfl ?_
  intro p e s m args below meth c s₁ B hml hv
  obtain ⟨rfl, rfl, hK⟩ := hv
  have hx := B.exec
  have hb := B.bytes
  have hr := B.returns
  have hts : ∀ w ∈ wq, w.before _ s = true := fun w h => atoms_spec (ws := wz yX10_areAlike cX10_areAlike 2 (some .boolean)) B.pre w (List.mem_cons_of_mem _ h)
  have hown : s.vm.findClass RX10 = some m.cls := findClass_of_methodNamed B.named
  have hlocks := B.notSynchronized
  obtain ⟨R, hR⟩ : ∃ R : Room, R = ({ frames := 1, cells := 0, slots := 0, locals := 22 } : Room) := ⟨_, rfl⟩
  rw [show (headSpec (wz yX10_areAlike cX10_areAlike 2 (some .boolean)) { frames := 1, cells := 0, slots := 0, locals := 22 }).room = R from hR.symm]
  refine ti_mz hx hb hr hlocks (fun Q ret => ?_)
  have hl := lv_entry [.ref a0] (n := 2) (Nat.le_of_ble_eq_true rfl)
  rw [lg_entry_eq]
  generalize (lg_sl [.ref a0] ++ List.replicate (2 - (lg_sl [.ref a0]).length) Slot.unset).toArray = ls at hl ⊢
  have hl : lv_has ls 2 [(0, .ref a0)] := hl
  have hS : va_S (pW Y []) s.heap s.heap [] := va_S.rf
  refine lv_iconst (v := 1) hx hb dX10_areAlike_0 (by decide) ?_
  have J2 : ∀ (n : Nat) (j2_L1 : Int32) (locs : List Loc) (ls : Array Slot), (8 - j2_L1.toInt).toNat < n → iv j2_L1 1 8 → va_S (pW Y []) s.heap s.heap locs → lv_has ls 2 [(0, .ref a0), (1, .int j2_L1)] → W p l e R s m ([.ref a0] : List Value).toArray below meth c s.heap locs 0 0 Q (F0 m 2 ls []) := by
    intro n
    induction n with
    | zero => intro j2_L1 locs ls hms; exact absurd hms (Nat.not_lt_zero _)
    | succ n ih2 =>
      intro j2_L1 locs ls hms2 hj2_L1 hS hl
      refine lv_iload_n hx hb dX10_areAlike_2 rfl (lv_at hl 1 rfl) ?_
      refine lv_aload_n hx hb dX10_areAlike_3 rfl (lv_at hl 0 rfl) ?_
      refine ti_calli (va_runV (As := []) (rest := [.int j2_L1]) ⟨hx, hb, hml, hown, hts⟩ (t_X10_people l hT ha0 hU) (cwV 0 hts (good_V kw_605 kw_606 kw_607 kw_5 kw_608) rfl rfl rfl (by decide +kernel) ⟨by rw [hR]; decide, by rw [hR]; decide⟩) (ti_preV hK hT ha0 rfl rfl) rfl rfl hl.1 rfl (lv_room (Nat.le_of_ble_eq_true rfl)) dX10_areAlike_4 ⟨Nat.zero_le _, Nat.zero_le _⟩) hS (pW_sub rfl) (fun v4 H1 locs hB hS _ hk4 => ?_)
      obtain ⟨hH, hv4, hp4⟩ := hB
      rw [hH] at hS ⊢
      refine lv_icmp_ge (tgt := 33) hx hb dX10_areAlike_7 (by decide) (fun c7 => ?_) (fun c7 => ?_)
      · skip
        have f7 := i_le c7
        refine lv_iconst (v := 1) hx hb dX10_areAlike_33 (by decide) ?_
        exact ret _ _ _ _ _ dX10_areAlike_34 (iv_w (iv_c (x := (1 : Int32)) (k := 1) (by decide)) (by decide)) (⟨rfl, iv_w (iv_c (x := (1 : Int32)) (k := 1) (by decide)) (by decide)⟩) hS
      · skip
        have f7 := i_nle c7
        have hj2_L1_7l : iv j2_L1 1 7 := iv_ltl hj2_L1 hv4 (Int32.not_le.mp c7) (by decide)
        have hv4_7r : iv v4 2 8 := iv_ltr hj2_L1_7l hv4 (Int32.not_le.mp c7) (by decide)
        refine lv_aload_n hx hb dX10_areAlike_10 rfl (lv_at hl 0 rfl) ?_
        refine lv_iload_n hx hb dX10_areAlike_11 rfl (lv_at hl 1 rfl) ?_
        refine lv_iconst (v := 0) hx hb dX10_areAlike_12 (by decide) ?_
        refine ti_calli (va_runV (As := [.int j2_L1, .int (0 : Int32)]) (rest := []) ⟨hx, hb, hml, hown, hts⟩ (t_X10_of l hT ha0 (iv_w hj2_L1_7l (by decide)) (iv_w (iv_c (x := (0 : Int32)) (k := 0) (by decide)) (by decide)) hU) (cwV 2 hts (good_V kw_490 kw_491 kw_492 kw_5 kw_493) rfl rfl rfl (by decide +kernel) ⟨by rw [hR]; decide, by rw [hR]; decide⟩) (ti_preV hK hT ha0 rfl rfl) rfl rfl hl.1 rfl (lv_room (Nat.le_of_ble_eq_true rfl)) dX10_areAlike_13 ⟨Nat.zero_le _, Nat.zero_le _⟩) hS (pW_sub rfl) (fun v13 H1 locs hB hS _ hk13 => ?_)
        obtain ⟨hH, hp13⟩ := hB
        rw [hH] at hS ⊢
        have kl0 : (0 : Int32).toInt = 0 := by decide
        have hf13 : iv v13 (-2147483648) 100000 := by have b0a := ((iv_top v13)).1; have b0b := ((iv_top v13)).2; exact ⟨by omega, by omega⟩
        refine lv_aload_n hx hb dX10_areAlike_16 rfl (lv_at hl 0 rfl) ?_
        refine lv_iconst (v := 0) hx hb dX10_areAlike_17 (by decide) ?_
        refine lv_iconst (v := 0) hx hb dX10_areAlike_18 (by decide) ?_
        refine ti_calli (va_runV (As := [.int (0 : Int32), .int (0 : Int32)]) (rest := [.int v13]) ⟨hx, hb, hml, hown, hts⟩ (t_X10_of l hT ha0 (iv_w (iv_c (x := (0 : Int32)) (k := 0) (by decide)) (by decide)) (iv_w (iv_c (x := (0 : Int32)) (k := 0) (by decide)) (by decide)) hU) (cwV 2 hts (good_V kw_490 kw_491 kw_492 kw_5 kw_493) rfl rfl rfl (by decide +kernel) ⟨by rw [hR]; decide, by rw [hR]; decide⟩) (ti_preV hK hT ha0 rfl rfl) rfl rfl hl.1 rfl (lv_room (Nat.le_of_ble_eq_true rfl)) dX10_areAlike_19 ⟨Nat.zero_le _, Nat.zero_le _⟩) hS (pW_sub rfl) (fun v19 H1 locs hB hS _ hk19 => ?_)
        obtain ⟨hH, hp19⟩ := hB
        rw [hH] at hS ⊢
        have hf19 : iv v19 (-2147483648) 100000 := by have b0a := ((iv_top v19)).1; have b0b := ((iv_top v19)).2; exact ⟨by omega, by omega⟩
        refine lv_icmp_eq (tgt := 27) hx hb dX10_areAlike_22 (by decide) (fun c22 => ?_) (fun c22 => ?_)
        · skip
          have f22 := i_eq c22
          obtain ⟨v27, e27⟩ : ∃ y : Int32, y = j2_L1 + 1 := ⟨_, rfl⟩
          have hv27 : iv v27 2 8 := by rw [e27]; exact iv_w (iv_add hj2_L1_7l (iv_c (x := (1 : Int32)) (k := 1) (by decide)) (by decide)) (by decide)
          have s27 : v27.toInt = j2_L1.toInt + 1 := by rw [e27, iv_addE hj2_L1_7l (iv_c (x := (1 : Int32)) (k := 1) (by decide)) (by decide)]; rfl
          refine lv_iinc (v := v27) (lv' := [(1, .int v27), (0, .ref a0)]) hx hb dX10_areAlike_27 hl (k := 1) rfl (by rw [e27]; rfl) (by decide) rfl (fun ls hl => ?_)
          refine lv_goto (tgt := 2) hx hb dX10_areAlike_30 (by decide) ?_
          exact ih2 v27 _ _ (ms_up hms2 (by have := s27; omega) (iv_w (c := 2) (d := 8) hv27 (by decide)).2) (iv_w hv27 (by decide))  hS (lv_sub hl [1, 0] rfl)
        · skip
          have f22 := i_ne c22
          refine lv_iconst (v := 0) hx hb dX10_areAlike_25 (by decide) ?_
          exact ret _ _ _ _ _ dX10_areAlike_26 (iv_w (iv_c (x := (0 : Int32)) (k := 0) (by decide)) (by decide)) (⟨rfl, iv_w (iv_c (x := (0 : Int32)) (k := 0) (by decide)) (by decide)⟩) hS
  refine lv_istore_n (lv' := [(1, .int (1 : Int32)), (0, .ref a0)]) hx hb dX10_areAlike_1 rfl hl (by decide) rfl (fun ls hl => ?_)
  exact J2 _ (1 : Int32) _ _ (Nat.lt_succ_self _) (iv_w (iv_c (x := (1 : Int32)) (k := 1) (by decide)) (by decide))  hS (lv_sub hl [1, 0] rfl)
set_option maxHeartbeats 4000000 in
set_option maxRecDepth 100000 in
theorem t_X10_pays (l : Launch) {D : va_G} {c0 : Nat → ClassId} {Y : Nat → Option Nat} {ν : Nat → Nat} {H : Heap} (hT : TI D vwCl (tysOf c0) (RTg ν) Y H) {a0 : Nat} (ha0 : Y a0 = some 10) {x1 : Int32} (hx1 : iv x1 (-2147483648) 2147483647) {x2 : Int32} (hx2 : iv x2 (-2147483648) 2147483647) (hν3 : ν 3 = 0) (hν5 : ν 5 = 0) (hU : uq Y) : Met l yX10_pays (wz yX10_pays cX10_pays 4 (some .int)) { frames := 10, cells := 0, slots := 0, locals := 287 } (TP D vwCl (tysOf c0) H [.ref a0, .int x1, .int x2]) (TQi (fun x H' => TI D vwCl (tysOf c0) (RTg ν) Y H') Y [10, 29, 30, 41, 42, 43]) 0 0 (pW Y [10, 29, 30, 41, 42, 43]) := by
  refine Met.ofW (cc := cX10_pays) (maxL := 4) (ret := (some .int)) (by decide) rfl ?_
  intro p e s m args below meth c s₁ B hml hv
  obtain ⟨rfl, rfl, hK⟩ := hv
  have hx := B.exec
  have hb := B.bytes
  have hr := B.returns
  have hts : ∀ w ∈ wq, w.before _ s = true := fun w h => atoms_spec (ws := wz yX10_pays cX10_pays 4 (some .int)) B.pre w (List.mem_cons_of_mem _ h)
  have hown : s.vm.findClass RX10 = some m.cls := findClass_of_methodNamed B.named
  have hlocks := B.notSynchronized
  obtain ⟨R, hR⟩ : ∃ R : Room, R = ({ frames := 10, cells := 0, slots := 0, locals := 287 } : Room) := ⟨_, rfl⟩
  rw [show (headSpec (wz yX10_pays cX10_pays 4 (some .int)) { frames := 10, cells := 0, slots := 0, locals := 287 }).room = R from hR.symm]
  refine ti_mi hx hb hr hlocks (fun Q ret => ?_)
  have hl := lv_entry [.ref a0, .int x1, .int x2] (n := 4) (Nat.le_of_ble_eq_true rfl)
  rw [lg_entry_eq]
  generalize (lg_sl [.ref a0, .int x1, .int x2] ++ List.replicate (4 - (lg_sl [.ref a0, .int x1, .int x2]).length) Slot.unset).toArray = ls at hl ⊢
  have hl : lv_has ls 4 [(0, .ref a0), (1, .int x1), (2, .int x2)] := hl
  refine ti_gen (P := fun H => TI D vwCl (tysOf c0) (RTg ν) Y H) (Y := Y) (ws := [10, 29, 30, 41, 42, 43]) hT (fun H locs hT hS => ?_)
  refine lv_aload_n hx hb dX10_pays_0 rfl (lv_at hl 0 rfl) ?_
  refine lv_iload_n hx hb dX10_pays_1 rfl (lv_at hl 1 rfl) ?_
  refine ti_calli (va_runV (As := [.int x1]) (rest := []) ⟨hx, hb, hml, hown, hts⟩ (t_X10_isPerson l hT ha0 (iv_w hx1 (by decide)) hU) (cwV 1 hts (good_V kw_486 kw_487 kw_488 kw_5 kw_489) rfl rfl rfl (by decide +kernel) ⟨by rw [hR]; decide, by rw [hR]; decide⟩) (ti_preV hK hT ha0 rfl rfl) rfl rfl hl.1 rfl (lv_room (Nat.le_of_ble_eq_true rfl)) dX10_pays_2 ⟨Nat.zero_le _, Nat.zero_le _⟩) hS (pW_sub rfl) (fun v2 H1 locs hB hS _ hk2 => ?_)
  obtain ⟨hH, hv2, hp2⟩ := hB
  rw [hH] at hS ⊢
  refine lv_if_eq (tgt := 20) hx hb dX10_pays_5 (by decide) (fun c5 => ?_) (fun c5 => ?_)
  · skip
    have kl0 : (0 : Int32).toInt = 0 := by decide
    have f5 := i_eq c5
    have hv2_5l : iv v2 0 0 := iv_eql hv2 (iv_c (x := (0 : Int32)) (k := 0) (by decide)) c5 (by decide)
    refine lv_bipush (v := (-2)) hx hb dX10_pays_20 (by decide) ?_
    exact ret _ _ _ _ _ dX10_pays_22 (hT) hS
  · skip
    have kl0 : (0 : Int32).toInt = 0 := by decide
    have f5 := i_ne c5
    have hv2_5l : iv v2 1 1 := iv_nel hv2 (iv_c (x := (0 : Int32)) (k := 0) (by decide)) c5 (by decide)
    have hx1_5p : iv x1 0 7 := by have b0a := (hx1).1; have b0b := (hx1).2; exact ⟨by omega, by omega⟩
    refine lv_iload_n hx hb dX10_pays_8 rfl (lv_at hl 2 rfl) ?_
    refine lv_i2l hx hb dX10_pays_9 rfl ?_
    refine lv_topl (fun v9 e9 => ?_)
    have hv9 : jv v9 (-2147483648) 2147483647 := by rw [e9]; exact jv_i hx2
    have t9 : v9.toInt = x2.toInt := by rw [e9]; exact jv_e _
    refine lv_lconst (v := 1) hx hb dX10_pays_10 (by decide) ?_
    have kj1 : (1 : Int64).toInt = 1 := by decide
    refine lv_ldc2 (v := 30) hx hb hown (hts _ kw_524) dX10_pays_11 ?_
    have kj30 : (30 : Int64).toInt = 30 := by decide
    refine ti_calli (va_runS (As := [.long v9, .long (1 : Int64), .long (30 : Int64)]) (rest := []) ⟨hx, hb, hml, hown, hts⟩ (t_X10_in l hT (jv_w hv9 (by decide)) (jv_w (jv_c (x := (1 : Int64)) (k := 1) (by decide)) (by decide)) (jv_w (jv_c (x := (30 : Int64)) (k := 30) (by decide)) (by decide))) (cwS 3 hts (good_S kw_181 kw_182 kw_5 kw_183) rfl rfl rfl (by decide +kernel) ⟨by rw [hR]; decide, by rw [hR]; decide⟩) (ti_preS hK) rfl rfl hl.1 rfl (lv_room (Nat.le_of_ble_eq_true rfl)) dX10_pays_14 ⟨Nat.zero_le _, Nat.zero_le _⟩) hS (pW_sub rfl) (fun v14 H1 locs hB hS _ hk14 => ?_)
    obtain ⟨hH, hv14, hp14⟩ := hB
    rw [hH] at hS ⊢
    refine lv_if_ne (tgt := 23) hx hb dX10_pays_17 (by decide) (fun c17 => ?_) (fun c17 => ?_)
    · skip
      have f17 := i_ne c17
      have hv14_17l : iv v14 1 1 := iv_nel hv14 (iv_c (x := (0 : Int32)) (k := 0) (by decide)) c17 (by decide)
      have hv9_17p : jv v9 1 30 := by have b0a := (hv9).1; have b0b := (hv9).2; have b1a := ((jv_c (x := (1 : Int64)) (k := 1) (by decide))).1; have b1b := ((jv_c (x := (1 : Int64)) (k := 1) (by decide))).2; have b2a := ((jv_c (x := (30 : Int64)) (k := 30) (by decide))).1; have b2b := ((jv_c (x := (30 : Int64)) (k := 30) (by decide))).2; exact ⟨by omega, by omega⟩
      have hx2_17p : iv x2 1 30 := by have := t9; have b0a := (hv9_17p).1; have b0b := (hv9_17p).2; have b1a := (hx2).1; have b1b := (hx2).2; exact ⟨by omega, by omega⟩
      refine lv_aload_n hx hb dX10_pays_23 rfl (lv_at hl 0 rfl) ?_
      refine ti_getr hx hb hts inlX10 hown hK hT ha0 rfl rfl rfl 30 (by decide) (hts _ kw_147) (fun _ h9 => h9) rfl dX10_pays_24 (fun v24 hv24 hm24 => ?_)
      refine lv_iload_n hx hb dX10_pays_27 rfl (lv_at hl 1 rfl) ?_
      refine ti_iald (lo := (-2147483648)) (hi := 2147483647) hx hb (aT0 hK) hT hv24 rfl hx1_5p (by decide) (fun _ _ _ => ⟨_, _, rfl, by decide, by decide⟩) dX10_pays_28 (fun v28 hv28 hm28 => ?_)
      refine lv_istore_n (lv' := [(3, .int v28), (0, .ref a0), (1, .int x1), (2, .int x2)]) hx hb dX10_pays_29 rfl hl (by decide) rfl (fun ls hl => ?_)
      refine lv_aload_n hx hb dX10_pays_30 rfl (lv_at hl 1 rfl) ?_
      refine ti_callv (va_runV (As := []) (rest := []) ⟨hx, hb, hml, hown, hts⟩ (t_X10_thinks l hT ha0 hν3 hν5 hU) (cwV 0 hts (good_V kw_819 kw_820 kw_821 kw_5 kw_822) rfl rfl rfl (by decide +kernel) ⟨by rw [hR]; decide, by rw [hR]; decide⟩) (ti_preV hK hT ha0 rfl rfl) rfl rfl hl.1 rfl (lv_room (Nat.le_of_ble_eq_true rfl)) dX10_pays_31 ⟨Nat.zero_le _, Nat.zero_le _⟩) hS (pW_sub rfl) (fun H locs hB hS _ hk31 => ?_)
      have hT := hB
      refine lv_aload_n hx hb dX10_pays_34 rfl (lv_at hl 1 rfl) ?_
      refine lv_iload_n hx hb dX10_pays_35 rfl (lv_at hl 3 rfl) ?_
      refine ti_calli (va_runV (As := [.int x2]) (rest := []) ⟨hx, hb, hml, hown, hts⟩ (t_X10_runs l hT ha0 (iv_w hx2_17p (by decide)) hU) (cwV 1 hts (good_V kw_939 kw_940 kw_941 kw_5 kw_942) rfl rfl rfl (by decide +kernel) ⟨by rw [hR]; decide, by rw [hR]; decide⟩) (ti_preV hK hT ha0 rfl rfl) rfl rfl hl.1 rfl (lv_room (Nat.le_of_ble_eq_true rfl)) dX10_pays_36 ⟨Nat.zero_le _, Nat.zero_le _⟩) hS (pW_sub rfl) (fun v36 H locs hB hS _ hk36 => ?_)
      have hT := hB
      refine lv_pop hx hb dX10_pays_39 rfl ?_
      refine lv_aload_n hx hb dX10_pays_40 rfl (lv_at hl 1 rfl) ?_
      refine ti_callv (va_runV (As := []) (rest := []) ⟨hx, hb, hml, hown, hts⟩ (t_X10_wakes l hT ha0 rfl rfl hU) (cwV 0 hts (good_V kw_824 kw_825 kw_826 kw_5 kw_827) rfl rfl rfl (by decide +kernel) ⟨by rw [hR]; decide, by rw [hR]; decide⟩) (ti_preV hK hT ha0 rfl rfl) rfl rfl hl.1 rfl (lv_room (Nat.le_of_ble_eq_true rfl)) dX10_pays_41 ⟨Nat.zero_le _, Nat.zero_le _⟩) hS (pW_sub rfl) (fun H locs hB hS _ hk41 => ?_)
      have hT := hB
      rw [nu_back hν3 hν5] at hT
      refine lv_aload_n hx hb dX10_pays_44 rfl (lv_at hl 1 rfl) ?_
      refine ti_getr hx hb hts inlX10 hown hK hT ha0 rfl rfl rfl 30 (by decide) (hts _ kw_147) (fun _ h9 => h9) rfl dX10_pays_45 (fun v45 hv45 hm45 => ?_)
      refine lv_iload_n hx hb dX10_pays_48 rfl (lv_at hl 2 rfl) ?_
      refine ti_iald (lo := (-2147483648)) (hi := 2147483647) hx hb (aT0 hK) hT hv45 rfl hx1_5p (by decide) (fun _ _ _ => ⟨_, _, rfl, by decide, by decide⟩) dX10_pays_49 (fun v49 hv49 hm49 => ?_)
      refine lv_iload_n hx hb dX10_pays_50 rfl (lv_at hl 0 rfl) ?_
      refine lv_isub hx hb dX10_pays_51 ?_
      refine lv_topi (fun v51 e51 => ?_)
      have hv51 : iv v51 (-2147483648) 2147483647 := iv_top _
      exact ret _ _ _ _ _ dX10_pays_52 (hT) hS
    · skip
      have f17 := i_eq c17
      have hv14_17l : iv v14 0 0 := iv_eql hv14 (iv_c (x := (0 : Int32)) (k := 0) (by decide)) c17 (by decide)
      refine lv_bipush (v := (-2)) hx hb dX10_pays_20 (by decide) ?_
      exact ret _ _ _ _ _ dX10_pays_22 (hT) hS
set_option maxHeartbeats 4000000 in
set_option maxRecDepth 100000 in
theorem t_X10_quiet (l : Launch) {D : va_G} {c0 : Nat → ClassId} {Y : Nat → Option Nat} {ν : Nat → Nat} {H : Heap} (hT : TI D vwCl (tysOf c0) (RTg ν) Y H) {a0 : Nat} (ha0 : Y a0 = some 10) {x1 : Int32} (hx1 : iv x1 (-2147483648) 2147483647) {x2 : Int32} (hx2 : iv x2 (-2147483648) 2147483647) (hν3 : ν 3 = 0) (hν5 : ν 5 = 0) (hU : uq Y) : Met l yX10_quiet (wz yX10_quiet cX10_quiet 6 (some .int)) { frames := 9, cells := 0, slots := 0, locals := 264 } (TP D vwCl (tysOf c0) H [.ref a0, .int x1, .int x2]) (TQi (fun x H' => TI D vwCl (tysOf c0) (RTg ν) Y H') Y [10, 29, 30, 41, 42, 43]) 0 0 (pW Y [10, 29, 30, 41, 42, 43]) := by
  refine Met.ofW (cc := cX10_quiet) (maxL := 6) (ret := (some .int)) (by decide) rfl ?_
  intro p e s m args below meth c s₁ B hml hv
  obtain ⟨rfl, rfl, hK⟩ := hv
  have hx := B.exec
  have hb := B.bytes
  have hr := B.returns
  have hts : ∀ w ∈ wq, w.before _ s = true := fun w h => atoms_spec (ws := wz yX10_quiet cX10_quiet 6 (some .int)) B.pre w (List.mem_cons_of_mem _ h)
  have hown : s.vm.findClass RX10 = some m.cls := findClass_of_methodNamed B.named
  have hlocks := B.notSynchronized
  obtain ⟨R, hR⟩ : ∃ R : Room, R = ({ frames := 9, cells := 0, slots := 0, locals := 264 } : Room) := ⟨_, rfl⟩
  rw [show (headSpec (wz yX10_quiet cX10_quiet 6 (some .int)) { frames := 9, cells := 0, slots := 0, locals := 264 }).room = R from hR.symm]
  refine ti_mi hx hb hr hlocks (fun Q ret => ?_)
  have hl := lv_entry [.ref a0, .int x1, .int x2] (n := 6) (Nat.le_of_ble_eq_true rfl)
  rw [lg_entry_eq]
  generalize (lg_sl [.ref a0, .int x1, .int x2] ++ List.replicate (6 - (lg_sl [.ref a0, .int x1, .int x2]).length) Slot.unset).toArray = ls at hl ⊢
  have hl : lv_has ls 6 [(0, .ref a0), (1, .int x1), (2, .int x2)] := hl
  refine ti_gen (P := fun H => TI D vwCl (tysOf c0) (RTg ν) Y H) (Y := Y) (ws := [10, 29, 30, 41, 42, 43]) hT (fun H locs hT hS => ?_)
  refine lv_aload_n hx hb dX10_quiet_0 rfl (lv_at hl 0 rfl) ?_
  refine lv_iload_n hx hb dX10_quiet_1 rfl (lv_at hl 1 rfl) ?_
  refine ti_calli (va_runV (As := [.int x1]) (rest := []) ⟨hx, hb, hml, hown, hts⟩ (t_X10_isRun l hT ha0 (iv_w hx1 (by decide)) hU) (cwV 1 hts (good_V kw_935 kw_936 kw_937 kw_5 kw_938) rfl rfl rfl (by decide +kernel) ⟨by rw [hR]; decide, by rw [hR]; decide⟩) (ti_preV hK hT ha0 rfl rfl) rfl rfl hl.1 rfl (lv_room (Nat.le_of_ble_eq_true rfl)) dX10_quiet_2 ⟨Nat.zero_le _, Nat.zero_le _⟩) hS (pW_sub rfl) (fun v2 H1 locs hB hS _ hk2 => ?_)
  obtain ⟨hH, hv2, hp2⟩ := hB
  rw [hH] at hS ⊢
  refine lv_if_eq (tgt := 18) hx hb dX10_quiet_5 (by decide) (fun c5 => ?_) (fun c5 => ?_)
  · skip
    have kl0 : (0 : Int32).toInt = 0 := by decide
    have f5 := i_eq c5
    have hv2_5l : iv v2 0 0 := iv_eql hv2 (iv_c (x := (0 : Int32)) (k := 0) (by decide)) c5 (by decide)
    refine lv_bipush (v := (-2)) hx hb dX10_quiet_18 (by decide) ?_
    exact ret _ _ _ _ _ dX10_quiet_20 (hT) hS
  · skip
    have kl0 : (0 : Int32).toInt = 0 := by decide
    have f5 := i_ne c5
    have hv2_5l : iv v2 1 1 := iv_nel hv2 (iv_c (x := (0 : Int32)) (k := 0) (by decide)) c5 (by decide)
    have hx1_5p : iv x1 1 30 := by have b0a := (hx1).1; have b0b := (hx1).2; exact ⟨by omega, by omega⟩
    refine lv_iload_n hx hb dX10_quiet_8 rfl (lv_at hl 2 rfl) ?_
    refine lv_i2l hx hb dX10_quiet_9 rfl ?_
    refine lv_topl (fun v9 e9 => ?_)
    have hv9 : jv v9 (-2147483648) 2147483647 := by rw [e9]; exact jv_i hx2
    have t9 : v9.toInt = x2.toInt := by rw [e9]; exact jv_e _
    refine lv_lconst (v := 0) hx hb dX10_quiet_10 (by decide) ?_
    have kj0 : (0 : Int64).toInt = 0 := by decide
    refine lv_lconst (v := 1) hx hb dX10_quiet_11 (by decide) ?_
    have kj1 : (1 : Int64).toInt = 1 := by decide
    refine ti_calli (va_runS (As := [.long v9, .long (0 : Int64), .long (1 : Int64)]) (rest := []) ⟨hx, hb, hml, hown, hts⟩ (t_X10_in l hT (jv_w hv9 (by decide)) (jv_w (jv_c (x := (0 : Int64)) (k := 0) (by decide)) (by decide)) (jv_w (jv_c (x := (1 : Int64)) (k := 1) (by decide)) (by decide))) (cwS 3 hts (good_S kw_181 kw_182 kw_5 kw_183) rfl rfl rfl (by decide +kernel) ⟨by rw [hR]; decide, by rw [hR]; decide⟩) (ti_preS hK) rfl rfl hl.1 rfl (lv_room (Nat.le_of_ble_eq_true rfl)) dX10_quiet_12 ⟨Nat.zero_le _, Nat.zero_le _⟩) hS (pW_sub rfl) (fun v12 H1 locs hB hS _ hk12 => ?_)
    obtain ⟨hH, hv12, hp12⟩ := hB
    rw [hH] at hS ⊢
    refine lv_if_ne (tgt := 21) hx hb dX10_quiet_15 (by decide) (fun c15 => ?_) (fun c15 => ?_)
    · skip
      have f15 := i_ne c15
      have hv12_15l : iv v12 1 1 := iv_nel hv12 (iv_c (x := (0 : Int32)) (k := 0) (by decide)) c15 (by decide)
      have hv9_15p : jv v9 0 1 := by have b0a := (hv9).1; have b0b := (hv9).2; have b1a := ((jv_c (x := (0 : Int64)) (k := 0) (by decide))).1; have b1b := ((jv_c (x := (0 : Int64)) (k := 0) (by decide))).2; have b2a := ((jv_c (x := (1 : Int64)) (k := 1) (by decide))).1; have b2b := ((jv_c (x := (1 : Int64)) (k := 1) (by decide))).2; exact ⟨by omega, by omega⟩
      have hx2_15p : iv x2 0 1 := by have := t9; have b0a := (hv9_15p).1; have b0b := (hv9_15p).2; have b1a := (hx2).1; have b1b := (hx2).2; exact ⟨by omega, by omega⟩
      refine lv_aload_n hx hb dX10_quiet_21 rfl (lv_at hl 0 rfl) ?_
      refine ti_callv (va_runV (As := []) (rest := []) ⟨hx, hb, hml, hown, hts⟩ (t_X10_thinks l hT ha0 hν3 hν5 hU) (cwV 0 hts (good_V kw_819 kw_820 kw_821 kw_5 kw_822) rfl rfl rfl (by decide +kernel) ⟨by rw [hR]; decide, by rw [hR]; decide⟩) (ti_preV hK hT ha0 rfl rfl) rfl rfl hl.1 rfl (lv_room (Nat.le_of_ble_eq_true rfl)) dX10_quiet_22 ⟨Nat.zero_le _, Nat.zero_le _⟩) hS (pW_sub rfl) (fun H locs hB hS _ hk22 => ?_)
      have hT := hB
      refine lv_iconst (v := 0) hx hb dX10_quiet_25 (by decide) ?_
      refine lv_istore_n (lv' := [(3, .int (0 : Int32)), (0, .ref a0), (1, .int x1), (2, .int x2)]) hx hb dX10_quiet_26 rfl hl (by decide) rfl (fun ls hl => ?_)
      refine lv_iconst (v := 0) hx hb dX10_quiet_27 (by decide) ?_
      refine lv_istore (lv' := [(4, .int (0 : Int32)), (3, .int (0 : Int32)), (0, .ref a0), (1, .int x1), (2, .int x2)]) hx hb dX10_quiet_28 hl (by decide) rfl (fun ls hl => ?_)
      refine lv_iconst (v := 1) hx hb dX10_quiet_30 (by decide) ?_
      have J33 : ∀ (n : Nat) (j33_L3 : Int32) (j33_L4 : Int32) (j33_L5 : Int32) (H : Heap) (locs : List Loc) (ls : Array Slot), (31 - j33_L5.toInt).toNat < n → iv j33_L3 (-2147483648) 2147483647 → iv j33_L4 0 30 → iv j33_L5 1 31 → TI D vwCl (tysOf c0) (RTg (νt ν)) Y H → va_S (pW Y [10, 29, 30, 41, 42, 43]) s.heap H locs → lv_has ls 6 [(0, .ref a0), (1, .int x1), (2, .int x2), (3, .int j33_L3), (4, .int j33_L4), (5, .int j33_L5)] → W p l e R s m ([.ref a0, .int x1, .int x2] : List Value).toArray below meth c H locs 0 0 Q (F0 m 33 ls []) := by
        intro n
        induction n with
        | zero => intro j33_L3 j33_L4 j33_L5 H locs ls hms; exact absurd hms (Nat.not_lt_zero _)
        | succ n ih33 =>
          intro j33_L3 j33_L4 j33_L5 H locs ls hms33 hj33_L3 hj33_L4 hj33_L5 hT hS hl
          refine lv_iload hx hb dX10_quiet_33 (lv_at hl 5 rfl) ?_
          refine lv_iload_n hx hb dX10_quiet_35 rfl (lv_at hl 1 rfl) ?_
          refine lv_icmp_gt (tgt := 72) hx hb dX10_quiet_36 (by decide) (fun c36 => ?_) (fun c36 => ?_)
          · skip
            have f36 := i_lt c36
            have hj33_L5_36r : iv j33_L5 2 31 := iv_ltr hx1_5p hj33_L5 c36 (by decide)
            refine lv_aload_n hx hb dX10_quiet_72 rfl (lv_at hl 0 rfl) ?_
            refine ti_callv (va_runV (As := []) (rest := []) ⟨hx, hb, hml, hown, hts⟩ (t_X10_wakes l hT ha0 rfl rfl hU) (cwV 0 hts (good_V kw_824 kw_825 kw_826 kw_5 kw_827) rfl rfl rfl (by decide +kernel) ⟨by rw [hR]; decide, by rw [hR]; decide⟩) (ti_preV hK hT ha0 rfl rfl) rfl rfl hl.1 rfl (lv_room (Nat.le_of_ble_eq_true rfl)) dX10_quiet_73 ⟨Nat.zero_le _, Nat.zero_le _⟩) hS (pW_sub rfl) (fun H locs hB hS _ hk73 => ?_)
            have hT := hB
            rw [nu_back hν3 hν5] at hT
            refine lv_iload_n hx hb dX10_quiet_76 rfl (lv_at hl 2 rfl) ?_
            refine lv_if_ne (tgt := 84) hx hb dX10_quiet_77 (by decide) (fun c77 => ?_) (fun c77 => ?_)
            · skip
              have f77 := i_ne c77
              have hx2_77l : iv x2 1 1 := iv_nel hx2_15p (iv_c (x := (0 : Int32)) (k := 0) (by decide)) c77 (by decide)
              refine lv_iload hx hb dX10_quiet_84 (lv_at hl 4 rfl) ?_
              exact ret _ _ _ _ _ dX10_quiet_86 (hT) hS
            · skip
              have f77 := i_eq c77
              have hx2_77l : iv x2 0 0 := iv_eql hx2_15p (iv_c (x := (0 : Int32)) (k := 0) (by decide)) c77 (by decide)
              refine lv_iload_n hx hb dX10_quiet_80 rfl (lv_at hl 3 rfl) ?_
              refine lv_goto (tgt := 86) hx hb dX10_quiet_81 (by decide) ?_
              exact ret _ _ _ _ _ dX10_quiet_86 (hT) hS
          · skip
            have f36 := i_nlt c36
            have hj33_L5_36l : iv j33_L5 1 30 := iv_lel hj33_L5 hx1_5p (Int32.not_lt.mp c36) (by decide)
            refine lv_aload_n hx hb dX10_quiet_39 rfl (lv_at hl 0 rfl) ?_
            refine ti_calli (va_runV (As := []) (rest := []) ⟨hx, hb, hml, hown, hts⟩ (t_X10_day l hT ha0 hU) (cwV 0 hts (good_V kw_944 kw_945 kw_946 kw_5 kw_947) rfl rfl rfl (by decide +kernel) ⟨by rw [hR]; decide, by rw [hR]; decide⟩) (ti_preV hK hT ha0 rfl rfl) rfl rfl hl.1 rfl (lv_room (Nat.le_of_ble_eq_true rfl)) dX10_quiet_40 ⟨Nat.zero_le _, Nat.zero_le _⟩) hS (pW_sub rfl) (fun v40 H locs hB hS _ hk40 => ?_)
            have hT := hB
            have J66 : ∀ (j66_L3 : Int32) (j66_L4 : Int32) (H : Heap) (locs : List Loc) (ls : Array Slot), iv j66_L3 (-2147483648) 2147483647 → iv j66_L4 0 30 → TI D vwCl (tysOf c0) (RTg (νt ν)) Y H → va_S (pW Y [10, 29, 30, 41, 42, 43]) s.heap H locs → lv_has ls 6 [(0, .ref a0), (1, .int x1), (2, .int x2), (3, .int j66_L3), (4, .int j66_L4), (5, .int j33_L5)] → W p l e R s m ([.ref a0, .int x1, .int x2] : List Value).toArray below meth c H locs 0 0 Q (F0 m 66 ls []) := by
              intro j66_L3 j66_L4 H locs ls hj66_L3 hj66_L4 hT hS hl
              obtain ⟨v66, e66⟩ : ∃ y : Int32, y = j33_L5 + 1 := ⟨_, rfl⟩
              have hv66 : iv v66 2 31 := by rw [e66]; exact iv_w (iv_add hj33_L5_36l (iv_c (x := (1 : Int32)) (k := 1) (by decide)) (by decide)) (by decide)
              have s66 : v66.toInt = j33_L5.toInt + 1 := by rw [e66, iv_addE hj33_L5_36l (iv_c (x := (1 : Int32)) (k := 1) (by decide)) (by decide)]; rfl
              refine lv_iinc (v := v66) (lv' := [(5, .int v66), (0, .ref a0), (1, .int x1), (2, .int x2), (3, .int j66_L3), (4, .int j66_L4)]) hx hb dX10_quiet_66 hl (k := 5) rfl (by rw [e66]; rfl) (by decide) rfl (fun ls hl => ?_)
              refine lv_goto (tgt := 33) hx hb dX10_quiet_69 (by decide) ?_
              exact ih33 j66_L3 j66_L4 v66 _ _ _ (ms_up hms33 (by have := s66; omega) (iv_w (c := 2) (d := 31) hv66 (by decide)).2) (iv_w hj66_L3 (by decide)) (iv_w hj66_L4 (by decide)) (iv_w hv66 (by decide)) hT hS (lv_sub hl [1, 2, 3, 4, 5, 0] rfl)
            refine lv_if_le (tgt := 49) hx hb dX10_quiet_43 (by decide) (fun c43 => ?_) (fun c43 => ?_)
            · skip
              have f43 := i_le c43
              have hv40_43l : iv v40 (-2147483648) 0 := iv_lel (iv_top v40) (iv_c (x := (0 : Int32)) (k := 0) (by decide)) c43 (by decide)
              obtain ⟨v49, e49⟩ : ∃ y : Int32, y = j33_L3 + 1 := ⟨_, rfl⟩
              have hv49 : iv v49 (-2147483648) 2147483647 := iv_top _
              refine lv_iinc (v := v49) (lv' := [(3, .int v49), (0, .ref a0), (1, .int x1), (2, .int x2), (4, .int j33_L4), (5, .int j33_L5)]) hx hb dX10_quiet_49 hl (k := 3) rfl (by rw [e49]; rfl) (by decide) rfl (fun ls hl => ?_)
              refine lv_iload hx hb dX10_quiet_52 (lv_at hl 4 rfl) ?_
              have J64 : ∀ (j64_S0 : Int32) (H : Heap) (locs : List Loc) (ls : Array Slot), iv j64_S0 1 30 → TI D vwCl (tysOf c0) (RTg (νt ν)) Y H → va_S (pW Y [10, 29, 30, 41, 42, 43]) s.heap H locs → lv_has ls 6 [(0, .ref a0), (1, .int x1), (2, .int x2), (3, .int v49), (4, .int j33_L4), (5, .int j33_L5)] → W p l e R s m ([.ref a0, .int x1, .int x2] : List Value).toArray below meth c H locs 0 0 Q (F0 m 64 ls [.int j64_S0]) := by
                intro j64_S0 H locs ls hj64_S0 hT hS hl
                refine lv_istore (lv' := [(4, .int j64_S0), (0, .ref a0), (1, .int x1), (2, .int x2), (3, .int v49), (5, .int j33_L5)]) hx hb dX10_quiet_64 hl (by decide) rfl (fun ls hl => ?_)
                exact J66 v49 j64_S0 _ _ _  (iv_w hv49 (by decide)) (iv_w hj64_S0 (by decide)) hT hS (lv_sub hl [1, 2, 3, 4, 0, 5] rfl)
              refine lv_if_ne (tgt := 62) hx hb dX10_quiet_54 (by decide) (fun c54 => ?_) (fun c54 => ?_)
              · skip
                have f54 := i_ne c54
                have hj33_L4_54l : iv j33_L4 1 30 := iv_nel hj33_L4 (iv_c (x := (0 : Int32)) (k := 0) (by decide)) c54 (by decide)
                refine lv_iload hx hb dX10_quiet_62 (lv_at hl 4 rfl) ?_
                exact J64 j33_L4 _ _ _  (iv_w hj33_L4_54l (by decide)) hT hS (lv_sub hl [1, 2, 3, 0, 4, 5] rfl)
              · skip
                have f54 := i_eq c54
                have hj33_L4_54l : iv j33_L4 0 0 := iv_eql hj33_L4 (iv_c (x := (0 : Int32)) (k := 0) (by decide)) c54 (by decide)
                refine lv_iload hx hb dX10_quiet_57 (lv_at hl 5 rfl) ?_
                refine lv_goto (tgt := 64) hx hb dX10_quiet_59 (by decide) ?_
                exact J64 j33_L5 _ _ _  (iv_w hj33_L5_36l (by decide)) hT hS (lv_sub hl [1, 2, 3, 0, 4, 5] rfl)
            · skip
              have f43 := i_nle c43
              have hv40_43r : iv v40 1 2147483647 := iv_ltr (iv_c (x := (0 : Int32)) (k := 0) (by decide)) (iv_top v40) (Int32.not_le.mp c43) (by decide)
              refine lv_goto (tgt := 66) hx hb dX10_quiet_46 (by decide) ?_
              exact J66 j33_L3 j33_L4 _ _ _  (iv_w hj33_L3 (by decide)) (iv_w hj33_L4 (by decide)) hT hS (lv_sub hl [0, 1, 2, 3, 4, 5] rfl)
      refine lv_istore (lv' := [(5, .int (1 : Int32)), (4, .int (0 : Int32)), (3, .int (0 : Int32)), (0, .ref a0), (1, .int x1), (2, .int x2)]) hx hb dX10_quiet_31 hl (by decide) rfl (fun ls hl => ?_)
      exact J33 _ (0 : Int32) (0 : Int32) (1 : Int32) _ _ _ (Nat.lt_succ_self _) (iv_w (iv_c (x := (0 : Int32)) (k := 0) (by decide)) (by decide)) (iv_w (iv_c (x := (0 : Int32)) (k := 0) (by decide)) (by decide)) (iv_w (iv_c (x := (1 : Int32)) (k := 1) (by decide)) (by decide)) hT hS (lv_sub hl [3, 4, 5, 2, 1, 0] rfl)
    · skip
      have f15 := i_eq c15
      have hv12_15l : iv v12 0 0 := iv_eql hv12 (iv_c (x := (0 : Int32)) (k := 0) (by decide)) c15 (by decide)
      refine lv_bipush (v := (-2)) hx hb dX10_quiet_18 (by decide) ?_
      exact ret _ _ _ _ _ dX10_quiet_20 (hT) hS
set_option maxHeartbeats 4000000 in
set_option maxRecDepth 100000 in
theorem t_X10_again (l : Launch) {D : va_G} {c0 : Nat → ClassId} {Y : Nat → Option Nat} {ν : Nat → Nat} {H : Heap} (hT : TI D vwCl (tysOf c0) (RTg ν) Y H) {a0 : Nat} (ha0 : Y a0 = some 10) {x1 : Int32} (hx1 : iv x1 (-2147483648) 2147483647) (hν3 : ν 3 = 0) (hν5 : ν 5 = 0) (hU : uq Y) : Met l yX10_again (wz yX10_again cX10_again 5 (some .int)) { frames := 9, cells := 0, slots := 0, locals := 264 } (TP D vwCl (tysOf c0) H [.ref a0, .int x1]) (TQi (fun x H' => TI D vwCl (tysOf c0) (RTg ν) Y H' ∧ iv x (-2) 30) Y [10, 29, 30, 41, 42, 43]) 0 0 (pW Y [10, 29, 30, 41, 42, 43]) := by
  refine Met.ofW (cc := cX10_again) (maxL := 5) (ret := (some .int)) (by decide) rfl ?_
  intro p e s m args below meth c s₁ B hml hv
  obtain ⟨rfl, rfl, hK⟩ := hv
  have hx := B.exec
  have hb := B.bytes
  have hr := B.returns
  have hts : ∀ w ∈ wq, w.before _ s = true := fun w h => atoms_spec (ws := wz yX10_again cX10_again 5 (some .int)) B.pre w (List.mem_cons_of_mem _ h)
  have hown : s.vm.findClass RX10 = some m.cls := findClass_of_methodNamed B.named
  have hlocks := B.notSynchronized
  obtain ⟨R, hR⟩ : ∃ R : Room, R = ({ frames := 9, cells := 0, slots := 0, locals := 264 } : Room) := ⟨_, rfl⟩
  rw [show (headSpec (wz yX10_again cX10_again 5 (some .int)) { frames := 9, cells := 0, slots := 0, locals := 264 }).room = R from hR.symm]
  refine ti_mi hx hb hr hlocks (fun Q ret => ?_)
  have hl := lv_entry [.ref a0, .int x1] (n := 5) (Nat.le_of_ble_eq_true rfl)
  rw [lg_entry_eq]
  generalize (lg_sl [.ref a0, .int x1] ++ List.replicate (5 - (lg_sl [.ref a0, .int x1]).length) Slot.unset).toArray = ls at hl ⊢
  have hl : lv_has ls 5 [(0, .ref a0), (1, .int x1)] := hl
  refine ti_gen (P := fun H => TI D vwCl (tysOf c0) (RTg ν) Y H) (Y := Y) (ws := [10, 29, 30, 41, 42, 43]) hT (fun H locs hT hS => ?_)
  refine lv_aload_n hx hb dX10_again_0 rfl (lv_at hl 0 rfl) ?_
  refine lv_iload_n hx hb dX10_again_1 rfl (lv_at hl 1 rfl) ?_
  refine ti_calli (va_runV (As := [.int x1]) (rest := []) ⟨hx, hb, hml, hown, hts⟩ (t_X10_isRun l hT ha0 (iv_w hx1 (by decide)) hU) (cwV 1 hts (good_V kw_935 kw_936 kw_937 kw_5 kw_938) rfl rfl rfl (by decide +kernel) ⟨by rw [hR]; decide, by rw [hR]; decide⟩) (ti_preV hK hT ha0 rfl rfl) rfl rfl hl.1 rfl (lv_room (Nat.le_of_ble_eq_true rfl)) dX10_again_2 ⟨Nat.zero_le _, Nat.zero_le _⟩) hS (pW_sub rfl) (fun v2 H1 locs hB hS _ hk2 => ?_)
  obtain ⟨hH, hv2, hp2⟩ := hB
  rw [hH] at hS ⊢
  refine lv_if_ne (tgt := 11) hx hb dX10_again_5 (by decide) (fun c5 => ?_) (fun c5 => ?_)
  · skip
    have kl0 : (0 : Int32).toInt = 0 := by decide
    have f5 := i_ne c5
    have hv2_5l : iv v2 1 1 := iv_nel hv2 (iv_c (x := (0 : Int32)) (k := 0) (by decide)) c5 (by decide)
    have hx1_5p : iv x1 1 30 := by have b0a := (hx1).1; have b0b := (hx1).2; exact ⟨by omega, by omega⟩
    refine lv_iconst (v := 0) hx hb dX10_again_11 (by decide) ?_
    have J13 : ∀ (n : Nat) (j13_L2 : Int32) (H : Heap) (locs : List Loc) (ls : Array Slot), (8 - j13_L2.toInt).toNat < n → iv j13_L2 0 8 → TI D vwCl (tysOf c0) (RTg ν) Y H → va_S (pW Y [10, 29, 30, 41, 42, 43]) s.heap H locs → lv_has ls 5 [(0, .ref a0), (1, .int x1), (2, .int j13_L2)] → W p l e R s m ([.ref a0, .int x1] : List Value).toArray below meth c H locs 0 0 Q (F0 m 13 ls []) := by
      intro n
      induction n with
      | zero => intro j13_L2 H locs ls hms; exact absurd hms (Nat.not_lt_zero _)
      | succ n ih13 =>
        intro j13_L2 H locs ls hms13 hj13_L2 hT hS hl
        refine lv_iload_n hx hb dX10_again_13 rfl (lv_at hl 2 rfl) ?_
        refine lv_aload_n hx hb dX10_again_14 rfl (lv_at hl 0 rfl) ?_
        refine ti_calli (va_runV (As := []) (rest := [.int j13_L2]) ⟨hx, hb, hml, hown, hts⟩ (t_X10_people l hT ha0 hU) (cwV 0 hts (good_V kw_605 kw_606 kw_607 kw_5 kw_608) rfl rfl rfl (by decide +kernel) ⟨by rw [hR]; decide, by rw [hR]; decide⟩) (ti_preV hK hT ha0 rfl rfl) rfl rfl hl.1 rfl (lv_room (Nat.le_of_ble_eq_true rfl)) dX10_again_15 ⟨Nat.zero_le _, Nat.zero_le _⟩) hS (pW_sub rfl) (fun v15 H1 locs hB hS _ hk15 => ?_)
        obtain ⟨hH, hv15, hp15⟩ := hB
        rw [hH] at hS ⊢
        refine lv_icmp_ge (tgt := 39) hx hb dX10_again_18 (by decide) (fun c18 => ?_) (fun c18 => ?_)
        · skip
          have f18 := i_le c18
          refine lv_aload_n hx hb dX10_again_39 rfl (lv_at hl 0 rfl) ?_
          refine ti_callv (va_runV (As := []) (rest := []) ⟨hx, hb, hml, hown, hts⟩ (t_X10_thinks l hT ha0 hν3 hν5 hU) (cwV 0 hts (good_V kw_819 kw_820 kw_821 kw_5 kw_822) rfl rfl rfl (by decide +kernel) ⟨by rw [hR]; decide, by rw [hR]; decide⟩) (ti_preV hK hT ha0 rfl rfl) rfl rfl hl.1 rfl (lv_room (Nat.le_of_ble_eq_true rfl)) dX10_again_40 ⟨Nat.zero_le _, Nat.zero_le _⟩) hS (pW_sub rfl) (fun H locs hB hS _ hk40 => ?_)
          have hT := hB
          refine lv_iconst (v := (-1)) hx hb dX10_again_43 (by decide) ?_
          refine lv_istore_n (lv' := [(2, .int (-1 : Int32)), (0, .ref a0), (1, .int x1)]) hx hb dX10_again_44 rfl hl (by decide) rfl (fun ls hl => ?_)
          refine lv_iconst (v := 1) hx hb dX10_again_45 (by decide) ?_
          have J47 : ∀ (n : Nat) (j47_L2 : Int32) (j47_L3 : Int32) (H : Heap) (locs : List Loc) (ls : Array Slot), (31 - j47_L3.toInt).toNat < n → iv j47_L2 (-1) 30 → iv j47_L3 1 31 → TI D vwCl (tysOf c0) (RTg (νt ν)) Y H → va_S (pW Y [10, 29, 30, 41, 42, 43]) s.heap H locs → lv_has ls 5 [(0, .ref a0), (1, .int x1), (2, .int j47_L2), (3, .int j47_L3)] → W p l e R s m ([.ref a0, .int x1] : List Value).toArray below meth c H locs 0 0 Q (F0 m 47 ls []) := by
            intro n
            induction n with
            | zero => intro j47_L2 j47_L3 H locs ls hms; exact absurd hms (Nat.not_lt_zero _)
            | succ n ih47 =>
              intro j47_L2 j47_L3 H locs ls hms47 hj47_L2 hj47_L3 hT hS hl
              refine lv_iload_n hx hb dX10_again_47 rfl (lv_at hl 3 rfl) ?_
              refine lv_iload_n hx hb dX10_again_48 rfl (lv_at hl 1 rfl) ?_
              have J82 : ∀  (H : Heap) (locs : List Loc) (ls : Array Slot), TI D vwCl (tysOf c0) (RTg (νt ν)) Y H → va_S (pW Y [10, 29, 30, 41, 42, 43]) s.heap H locs → lv_has ls 5 [(0, .ref a0), (1, .int x1), (2, .int j47_L2), (3, .int j47_L3)] → W p l e R s m ([.ref a0, .int x1] : List Value).toArray below meth c H locs 0 0 Q (F0 m 82 ls []) := by
                intro  H locs ls  hT hS hl
                refine lv_aload_n hx hb dX10_again_82 rfl (lv_at hl 0 rfl) ?_
                refine ti_callv (va_runV (As := []) (rest := []) ⟨hx, hb, hml, hown, hts⟩ (t_X10_wakes l hT ha0 rfl rfl hU) (cwV 0 hts (good_V kw_824 kw_825 kw_826 kw_5 kw_827) rfl rfl rfl (by decide +kernel) ⟨by rw [hR]; decide, by rw [hR]; decide⟩) (ti_preV hK hT ha0 rfl rfl) rfl rfl hl.1 rfl (lv_room (Nat.le_of_ble_eq_true rfl)) dX10_again_83 ⟨Nat.zero_le _, Nat.zero_le _⟩) hS (pW_sub rfl) (fun H locs hB hS _ hk83 => ?_)
                have hT := hB
                rw [nu_back hν3 hν5] at hT
                refine lv_iload_n hx hb dX10_again_86 rfl (lv_at hl 2 rfl) ?_
                exact ret _ _ _ _ _ dX10_again_87 (⟨hT, iv_w hj47_L2 (by decide)⟩) hS
              refine lv_icmp_gt (tgt := 82) hx hb dX10_again_49 (by decide) (fun c49 => ?_) (fun c49 => ?_)
              · skip
                have f49 := i_lt c49
                have hj47_L3_49r : iv j47_L3 2 31 := iv_ltr hx1_5p hj47_L3 c49 (by decide)
                exact J82  _ _ _   hT hS (lv_sub hl [0, 1, 2, 3] rfl)
              · skip
                have f49 := i_nlt c49
                have hj47_L3_49l : iv j47_L3 1 30 := iv_lel hj47_L3 hx1_5p (Int32.not_lt.mp c49) (by decide)
                refine lv_iload_n hx hb dX10_again_52 rfl (lv_at hl 2 rfl) ?_
                refine lv_iconst (v := (-1)) hx hb dX10_again_53 (by decide) ?_
                refine lv_icmp_ne (tgt := 82) hx hb dX10_again_54 (by decide) (fun c54 => ?_) (fun c54 => ?_)
                · skip
                  have klm1 : (-1 : Int32).toInt = (-1) := by decide
                  have f54 := i_ne c54
                  have hj47_L2_54l : iv j47_L2 0 30 := iv_nel hj47_L2 (iv_c (x := (-1 : Int32)) (k := (-1)) (by decide)) c54 (by decide)
                  exact J82  _ _ _   hT hS (lv_sub hl [0, 1, 2, 3] rfl)
                · skip
                  have klm1 : (-1 : Int32).toInt = (-1) := by decide
                  have f54 := i_eq c54
                  have hj47_L2_54l : iv j47_L2 (-1) (-1) := iv_eql hj47_L2 (iv_c (x := (-1 : Int32)) (k := (-1)) (by decide)) c54 (by decide)
                  refine lv_aload_n hx hb dX10_again_57 rfl (lv_at hl 0 rfl) ?_
                  refine ti_calli (va_runV (As := []) (rest := []) ⟨hx, hb, hml, hown, hts⟩ (t_X10_day l hT ha0 hU) (cwV 0 hts (good_V kw_944 kw_945 kw_946 kw_5 kw_947) rfl rfl rfl (by decide +kernel) ⟨by rw [hR]; decide, by rw [hR]; decide⟩) (ti_preV hK hT ha0 rfl rfl) rfl rfl hl.1 rfl (lv_room (Nat.le_of_ble_eq_true rfl)) dX10_again_58 ⟨Nat.zero_le _, Nat.zero_le _⟩) hS (pW_sub rfl) (fun v58 H locs hB hS _ hk58 => ?_)
                  have hT := hB
                  refine lv_istore (lv' := [(4, .int v58), (0, .ref a0), (1, .int x1), (2, .int j47_L2), (3, .int j47_L3)]) hx hb dX10_again_61 hl (by decide) rfl (fun ls hl => ?_)
                  refine lv_aload_n hx hb dX10_again_63 rfl (lv_at hl 1 rfl) ?_
                  refine ti_calli (va_runV (As := []) (rest := []) ⟨hx, hb, hml, hown, hts⟩ (t_X10_haveAsBefore l hT ha0 hU) (cwV 0 hts (good_V kw_1398 kw_1399 kw_1400 kw_5 kw_1401) rfl rfl rfl (by decide +kernel) ⟨by rw [hR]; decide, by rw [hR]; decide⟩) (ti_preV hK hT ha0 rfl rfl) rfl rfl hl.1 rfl (lv_room (Nat.le_of_ble_eq_true rfl)) dX10_again_64 ⟨Nat.zero_le _, Nat.zero_le _⟩) hS (pW_sub rfl) (fun v64 H1 locs hB hS _ hk64 => ?_)
                  obtain ⟨hH, hv64⟩ := hB
                  rw [hH] at hS ⊢
                  have J75 : ∀ (j75_S0 : Int32) (H : Heap) (locs : List Loc) (ls : Array Slot), iv j75_S0 (-1) 30 → TI D vwCl (tysOf c0) (RTg (νt ν)) Y H → va_S (pW Y [10, 29, 30, 41, 42, 43]) s.heap H locs → lv_has ls 5 [(0, .ref a0), (1, .int x1), (2, .int j47_L2), (3, .int j47_L3), (4, .int v58)] → W p l e R s m ([.ref a0, .int x1] : List Value).toArray below meth c H locs 0 0 Q (F0 m 75 ls [.int j75_S0]) := by
                    intro j75_S0 H locs ls hj75_S0 hT hS hl
                    refine lv_istore_n (lv' := [(2, .int j75_S0), (0, .ref a0), (1, .int x1), (3, .int j47_L3), (4, .int v58)]) hx hb dX10_again_75 rfl hl (by decide) rfl (fun ls hl => ?_)
                    obtain ⟨v76, e76⟩ : ∃ y : Int32, y = j47_L3 + 1 := ⟨_, rfl⟩
                    have hv76 : iv v76 2 31 := by rw [e76]; exact iv_w (iv_add hj47_L3_49l (iv_c (x := (1 : Int32)) (k := 1) (by decide)) (by decide)) (by decide)
                    have s76 : v76.toInt = j47_L3.toInt + 1 := by rw [e76, iv_addE hj47_L3_49l (iv_c (x := (1 : Int32)) (k := 1) (by decide)) (by decide)]; rfl
                    refine lv_iinc (v := v76) (lv' := [(3, .int v76), (2, .int j75_S0), (0, .ref a0), (1, .int x1), (4, .int v58)]) hx hb dX10_again_76 hl (k := 3) rfl (by rw [e76]; rfl) (by decide) rfl (fun ls hl => ?_)
                    refine lv_goto (tgt := 47) hx hb dX10_again_79 (by decide) ?_
                    exact ih47 j75_S0 v76 _ _ _ (ms_up hms47 (by have := s76; omega) (iv_w (c := 2) (d := 31) hv76 (by decide)).2) (iv_w hj75_S0 (by decide)) (iv_w hv76 (by decide)) hT hS (lv_sub hl [2, 3, 1, 0] rfl)
                  refine lv_if_eq (tgt := 74) hx hb dX10_again_67 (by decide) (fun c67 => ?_) (fun c67 => ?_)
                  · skip
                    have f67 := i_eq c67
                    have hv64_67l : iv v64 0 0 := iv_eql hv64 (iv_c (x := (0 : Int32)) (k := 0) (by decide)) c67 (by decide)
                    refine lv_iconst (v := (-1)) hx hb dX10_again_74 (by decide) ?_
                    exact J75 (-1 : Int32) _ _ _  (iv_w (iv_c (x := (-1 : Int32)) (k := (-1)) (by decide)) (by decide)) hT hS (lv_sub hl [1, 2, 3, 4, 0] rfl)
                  · skip
                    have f67 := i_ne c67
                    have hv64_67l : iv v64 1 1 := iv_nel hv64 (iv_c (x := (0 : Int32)) (k := 0) (by decide)) c67 (by decide)
                    refine lv_iload_n hx hb dX10_again_70 rfl (lv_at hl 4 rfl) ?_
                    refine lv_goto (tgt := 75) hx hb dX10_again_71 (by decide) ?_
                    exact J75 j47_L3 _ _ _  (iv_w hj47_L3_49l (by decide)) hT hS (lv_sub hl [1, 2, 3, 4, 0] rfl)
          refine lv_istore_n (lv' := [(3, .int (1 : Int32)), (2, .int (-1 : Int32)), (0, .ref a0), (1, .int x1)]) hx hb dX10_again_46 rfl hl (by decide) rfl (fun ls hl => ?_)
          exact J47 _ (-1 : Int32) (1 : Int32) _ _ _ (Nat.lt_succ_self _) (iv_w (iv_c (x := (-1 : Int32)) (k := (-1)) (by decide)) (by decide)) (iv_w (iv_c (x := (1 : Int32)) (k := 1) (by decide)) (by decide)) hT hS (lv_sub hl [2, 3, 1, 0] rfl)
        · skip
          have f18 := i_nle c18
          have hj13_L2_18l : iv j13_L2 0 7 := iv_ltl hj13_L2 hv15 (Int32.not_le.mp c18) (by decide)
          have hv15_18r : iv v15 1 8 := iv_ltr hj13_L2_18l hv15 (Int32.not_le.mp c18) (by decide)
          refine lv_aload_n hx hb dX10_again_21 rfl (lv_at hl 0 rfl) ?_
          refine ti_getr hx hb hts inlX10 hown hK hT ha0 rfl rfl rfl 29 (by decide) (hts _ kw_146) (fun _ h9 => h9) rfl dX10_again_22 (fun v22 hv22 hm22 => ?_)
          refine lv_iload_n hx hb dX10_again_25 rfl (lv_at hl 2 rfl) ?_
          refine lv_aload_n hx hb dX10_again_26 rfl (lv_at hl 0 rfl) ?_
          refine lv_iload_n hx hb dX10_again_27 rfl (lv_at hl 2 rfl) ?_
          refine lv_iconst (v := 0) hx hb dX10_again_28 (by decide) ?_
          refine ti_calli (va_runV (As := [.int j13_L2, .int (0 : Int32)]) (rest := [.int j13_L2, .ref v22]) ⟨hx, hb, hml, hown, hts⟩ (t_X10_of l hT ha0 (iv_w hj13_L2_18l (by decide)) (iv_w (iv_c (x := (0 : Int32)) (k := 0) (by decide)) (by decide)) hU) (cwV 2 hts (good_V kw_490 kw_491 kw_492 kw_5 kw_493) rfl rfl rfl (by decide +kernel) ⟨by rw [hR]; decide, by rw [hR]; decide⟩) (ti_preV hK hT ha0 rfl rfl) rfl rfl hl.1 rfl (lv_room (Nat.le_of_ble_eq_true rfl)) dX10_again_29 ⟨Nat.zero_le _, Nat.zero_le _⟩) hS (pW_sub rfl) (fun v29 H1 locs hB hS _ hk29 => ?_)
          obtain ⟨hH, hp29⟩ := hB
          rw [hH] at hS ⊢
          have hf29 : iv v29 (-2147483648) 100000 := by have b0a := ((iv_top v29)).1; have b0b := ((iv_top v29)).2; exact ⟨by omega, by omega⟩
          refine ti_iast hx hb (aT0 hK) hT hS hv22 rfl rfl hj13_L2_18l (by decide) (fun _ _ _ => ⟨_, _, rfl, by decide, by decide⟩) hf29 (fun _ _ => trivial) dX10_again_32 (fun H locs hT hS oq32 he32 hk32 => ?_)
          obtain ⟨v33, e33⟩ : ∃ y : Int32, y = j13_L2 + 1 := ⟨_, rfl⟩
          have hv33 : iv v33 1 8 := by rw [e33]; exact iv_w (iv_add hj13_L2_18l (iv_c (x := (1 : Int32)) (k := 1) (by decide)) (by decide)) (by decide)
          have s33 : v33.toInt = j13_L2.toInt + 1 := by rw [e33, iv_addE hj13_L2_18l (iv_c (x := (1 : Int32)) (k := 1) (by decide)) (by decide)]; rfl
          refine lv_iinc (v := v33) (lv' := [(2, .int v33), (0, .ref a0), (1, .int x1)]) hx hb dX10_again_33 hl (k := 2) rfl (by rw [e33]; rfl) (by decide) rfl (fun ls hl => ?_)
          refine lv_goto (tgt := 13) hx hb dX10_again_36 (by decide) ?_
          exact ih13 v33 _ _ _ (ms_up hms13 (by have := s33; omega) (iv_w (c := 1) (d := 8) hv33 (by decide)).2) (iv_w hv33 (by decide)) hT hS (lv_sub hl [1, 2, 0] rfl)
    refine lv_istore_n (lv' := [(2, .int (0 : Int32)), (0, .ref a0), (1, .int x1)]) hx hb dX10_again_12 rfl hl (by decide) rfl (fun ls hl => ?_)
    exact J13 _ (0 : Int32) _ _ _ (Nat.lt_succ_self _) (iv_w (iv_c (x := (0 : Int32)) (k := 0) (by decide)) (by decide)) hT hS (lv_sub hl [1, 2, 0] rfl)
  · skip
    have kl0 : (0 : Int32).toInt = 0 := by decide
    have f5 := i_eq c5
    have hv2_5l : iv v2 0 0 := iv_eql hv2 (iv_c (x := (0 : Int32)) (k := 0) (by decide)) c5 (by decide)
    refine lv_bipush (v := (-2)) hx hb dX10_again_8 (by decide) ?_
    exact ret _ _ _ _ _ dX10_again_10 (⟨hT, iv_w (iv_c (x := (-2 : Int32)) (k := (-2)) (by decide)) (by decide)⟩) hS
set_option maxHeartbeats 4000000 in
set_option maxRecDepth 100000 in
theorem t_X10_alike (l : Launch) {D : va_G} {c0 : Nat → ClassId} {Y : Nat → Option Nat} {ν : Nat → Nat} {H : Heap} (hT : TI D vwCl (tysOf c0) (RTg ν) Y H) {a0 : Nat} (ha0 : Y a0 = some 10) {x1 : Int32} (hx1 : iv x1 (-2147483648) 2147483647) (hν3 : ν 3 = 0) (hν5 : ν 5 = 0) (hU : uq Y) : Met l yX10_alike (wz yX10_alike cX10_alike 5 (some .int)) { frames := 9, cells := 0, slots := 0, locals := 264 } (TP D vwCl (tysOf c0) H [.ref a0, .int x1]) (TQi (fun x H' => TI D vwCl (tysOf c0) (RTg ν) Y H' ∧ iv x (-2) 30) Y [10, 29, 30, 41, 42, 43]) 0 0 (pW Y [10, 29, 30, 41, 42, 43]) := by
  refine Met.ofW (cc := cX10_alike) (maxL := 5) (ret := (some .int)) (by decide) rfl ?_
  intro p e s m args below meth c s₁ B hml hv
  obtain ⟨rfl, rfl, hK⟩ := hv
  have hx := B.exec
  have hb := B.bytes
  have hr := B.returns
  have hts : ∀ w ∈ wq, w.before _ s = true := fun w h => atoms_spec (ws := wz yX10_alike cX10_alike 5 (some .int)) B.pre w (List.mem_cons_of_mem _ h)
  have hown : s.vm.findClass RX10 = some m.cls := findClass_of_methodNamed B.named
  have hlocks := B.notSynchronized
  obtain ⟨R, hR⟩ : ∃ R : Room, R = ({ frames := 9, cells := 0, slots := 0, locals := 264 } : Room) := ⟨_, rfl⟩
  rw [show (headSpec (wz yX10_alike cX10_alike 5 (some .int)) { frames := 9, cells := 0, slots := 0, locals := 264 }).room = R from hR.symm]
  refine ti_mi hx hb hr hlocks (fun Q ret => ?_)
  have hl := lv_entry [.ref a0, .int x1] (n := 5) (Nat.le_of_ble_eq_true rfl)
  rw [lg_entry_eq]
  generalize (lg_sl [.ref a0, .int x1] ++ List.replicate (5 - (lg_sl [.ref a0, .int x1]).length) Slot.unset).toArray = ls at hl ⊢
  have hl : lv_has ls 5 [(0, .ref a0), (1, .int x1)] := hl
  refine ti_gen (P := fun H => TI D vwCl (tysOf c0) (RTg ν) Y H) (Y := Y) (ws := [10, 29, 30, 41, 42, 43]) hT (fun H locs hT hS => ?_)
  refine lv_aload_n hx hb dX10_alike_0 rfl (lv_at hl 0 rfl) ?_
  refine lv_iload_n hx hb dX10_alike_1 rfl (lv_at hl 1 rfl) ?_
  refine ti_calli (va_runV (As := [.int x1]) (rest := []) ⟨hx, hb, hml, hown, hts⟩ (t_X10_isRun l hT ha0 (iv_w hx1 (by decide)) hU) (cwV 1 hts (good_V kw_935 kw_936 kw_937 kw_5 kw_938) rfl rfl rfl (by decide +kernel) ⟨by rw [hR]; decide, by rw [hR]; decide⟩) (ti_preV hK hT ha0 rfl rfl) rfl rfl hl.1 rfl (lv_room (Nat.le_of_ble_eq_true rfl)) dX10_alike_2 ⟨Nat.zero_le _, Nat.zero_le _⟩) hS (pW_sub rfl) (fun v2 H1 locs hB hS _ hk2 => ?_)
  obtain ⟨hH, hv2, hp2⟩ := hB
  rw [hH] at hS ⊢
  refine lv_if_ne (tgt := 11) hx hb dX10_alike_5 (by decide) (fun c5 => ?_) (fun c5 => ?_)
  · skip
    have kl0 : (0 : Int32).toInt = 0 := by decide
    have f5 := i_ne c5
    have hv2_5l : iv v2 1 1 := iv_nel hv2 (iv_c (x := (0 : Int32)) (k := 0) (by decide)) c5 (by decide)
    have hx1_5p : iv x1 1 30 := by have b0a := (hx1).1; have b0b := (hx1).2; exact ⟨by omega, by omega⟩
    refine lv_aload_n hx hb dX10_alike_11 rfl (lv_at hl 0 rfl) ?_
    refine ti_callv (va_runV (As := []) (rest := []) ⟨hx, hb, hml, hown, hts⟩ (t_X10_thinks l hT ha0 hν3 hν5 hU) (cwV 0 hts (good_V kw_819 kw_820 kw_821 kw_5 kw_822) rfl rfl rfl (by decide +kernel) ⟨by rw [hR]; decide, by rw [hR]; decide⟩) (ti_preV hK hT ha0 rfl rfl) rfl rfl hl.1 rfl (lv_room (Nat.le_of_ble_eq_true rfl)) dX10_alike_12 ⟨Nat.zero_le _, Nat.zero_le _⟩) hS (pW_sub rfl) (fun H locs hB hS _ hk12 => ?_)
    have hT := hB
    refine lv_iconst (v := (-1)) hx hb dX10_alike_15 (by decide) ?_
    refine lv_istore_n (lv' := [(2, .int (-1 : Int32)), (0, .ref a0), (1, .int x1)]) hx hb dX10_alike_16 rfl hl (by decide) rfl (fun ls hl => ?_)
    refine lv_iconst (v := 1) hx hb dX10_alike_17 (by decide) ?_
    have J19 : ∀ (n : Nat) (j19_L2 : Int32) (j19_L3 : Int32) (H : Heap) (locs : List Loc) (ls : Array Slot), (31 - j19_L3.toInt).toNat < n → iv j19_L2 (-1) 30 → iv j19_L3 1 31 → TI D vwCl (tysOf c0) (RTg (νt ν)) Y H → va_S (pW Y [10, 29, 30, 41, 42, 43]) s.heap H locs → lv_has ls 5 [(0, .ref a0), (1, .int x1), (2, .int j19_L2), (3, .int j19_L3)] → W p l e R s m ([.ref a0, .int x1] : List Value).toArray below meth c H locs 0 0 Q (F0 m 19 ls []) := by
      intro n
      induction n with
      | zero => intro j19_L2 j19_L3 H locs ls hms; exact absurd hms (Nat.not_lt_zero _)
      | succ n ih19 =>
        intro j19_L2 j19_L3 H locs ls hms19 hj19_L2 hj19_L3 hT hS hl
        refine lv_iload_n hx hb dX10_alike_19 rfl (lv_at hl 3 rfl) ?_
        refine lv_iload_n hx hb dX10_alike_20 rfl (lv_at hl 1 rfl) ?_
        have J54 : ∀  (H : Heap) (locs : List Loc) (ls : Array Slot), TI D vwCl (tysOf c0) (RTg (νt ν)) Y H → va_S (pW Y [10, 29, 30, 41, 42, 43]) s.heap H locs → lv_has ls 5 [(0, .ref a0), (1, .int x1), (2, .int j19_L2), (3, .int j19_L3)] → W p l e R s m ([.ref a0, .int x1] : List Value).toArray below meth c H locs 0 0 Q (F0 m 54 ls []) := by
          intro  H locs ls  hT hS hl
          refine lv_aload_n hx hb dX10_alike_54 rfl (lv_at hl 0 rfl) ?_
          refine ti_callv (va_runV (As := []) (rest := []) ⟨hx, hb, hml, hown, hts⟩ (t_X10_wakes l hT ha0 rfl rfl hU) (cwV 0 hts (good_V kw_824 kw_825 kw_826 kw_5 kw_827) rfl rfl rfl (by decide +kernel) ⟨by rw [hR]; decide, by rw [hR]; decide⟩) (ti_preV hK hT ha0 rfl rfl) rfl rfl hl.1 rfl (lv_room (Nat.le_of_ble_eq_true rfl)) dX10_alike_55 ⟨Nat.zero_le _, Nat.zero_le _⟩) hS (pW_sub rfl) (fun H locs hB hS _ hk55 => ?_)
          have hT := hB
          rw [nu_back hν3 hν5] at hT
          refine lv_iload_n hx hb dX10_alike_58 rfl (lv_at hl 2 rfl) ?_
          exact ret _ _ _ _ _ dX10_alike_59 (⟨hT, iv_w hj19_L2 (by decide)⟩) hS
        refine lv_icmp_gt (tgt := 54) hx hb dX10_alike_21 (by decide) (fun c21 => ?_) (fun c21 => ?_)
        · skip
          have f21 := i_lt c21
          have hj19_L3_21r : iv j19_L3 2 31 := iv_ltr hx1_5p hj19_L3 c21 (by decide)
          exact J54  _ _ _   hT hS (lv_sub hl [0, 1, 2, 3] rfl)
        · skip
          have f21 := i_nlt c21
          have hj19_L3_21l : iv j19_L3 1 30 := iv_lel hj19_L3 hx1_5p (Int32.not_lt.mp c21) (by decide)
          refine lv_iload_n hx hb dX10_alike_24 rfl (lv_at hl 2 rfl) ?_
          refine lv_iconst (v := (-1)) hx hb dX10_alike_25 (by decide) ?_
          refine lv_icmp_ne (tgt := 54) hx hb dX10_alike_26 (by decide) (fun c26 => ?_) (fun c26 => ?_)
          · skip
            have klm1 : (-1 : Int32).toInt = (-1) := by decide
            have f26 := i_ne c26
            have hj19_L2_26l : iv j19_L2 0 30 := iv_nel hj19_L2 (iv_c (x := (-1 : Int32)) (k := (-1)) (by decide)) c26 (by decide)
            exact J54  _ _ _   hT hS (lv_sub hl [0, 1, 2, 3] rfl)
          · skip
            have klm1 : (-1 : Int32).toInt = (-1) := by decide
            have f26 := i_eq c26
            have hj19_L2_26l : iv j19_L2 (-1) (-1) := iv_eql hj19_L2 (iv_c (x := (-1 : Int32)) (k := (-1)) (by decide)) c26 (by decide)
            refine lv_aload_n hx hb dX10_alike_29 rfl (lv_at hl 0 rfl) ?_
            refine ti_calli (va_runV (As := []) (rest := []) ⟨hx, hb, hml, hown, hts⟩ (t_X10_day l hT ha0 hU) (cwV 0 hts (good_V kw_944 kw_945 kw_946 kw_5 kw_947) rfl rfl rfl (by decide +kernel) ⟨by rw [hR]; decide, by rw [hR]; decide⟩) (ti_preV hK hT ha0 rfl rfl) rfl rfl hl.1 rfl (lv_room (Nat.le_of_ble_eq_true rfl)) dX10_alike_30 ⟨Nat.zero_le _, Nat.zero_le _⟩) hS (pW_sub rfl) (fun v30 H locs hB hS _ hk30 => ?_)
            have hT := hB
            refine lv_istore (lv' := [(4, .int v30), (0, .ref a0), (1, .int x1), (2, .int j19_L2), (3, .int j19_L3)]) hx hb dX10_alike_33 hl (by decide) rfl (fun ls hl => ?_)
            refine lv_aload_n hx hb dX10_alike_35 rfl (lv_at hl 1 rfl) ?_
            refine ti_calli (va_runV (As := []) (rest := []) ⟨hx, hb, hml, hown, hts⟩ (t_X10_areAlike l hT ha0 hU) (cwV 0 hts (good_V kw_1410 kw_1411 kw_1412 kw_5 kw_1413) rfl rfl rfl (by decide +kernel) ⟨by rw [hR]; decide, by rw [hR]; decide⟩) (ti_preV hK hT ha0 rfl rfl) rfl rfl hl.1 rfl (lv_room (Nat.le_of_ble_eq_true rfl)) dX10_alike_36 ⟨Nat.zero_le _, Nat.zero_le _⟩) hS (pW_sub rfl) (fun v36 H1 locs hB hS _ hk36 => ?_)
            obtain ⟨hH, hv36⟩ := hB
            rw [hH] at hS ⊢
            have J47 : ∀ (j47_S0 : Int32) (H : Heap) (locs : List Loc) (ls : Array Slot), iv j47_S0 (-1) 30 → TI D vwCl (tysOf c0) (RTg (νt ν)) Y H → va_S (pW Y [10, 29, 30, 41, 42, 43]) s.heap H locs → lv_has ls 5 [(0, .ref a0), (1, .int x1), (2, .int j19_L2), (3, .int j19_L3), (4, .int v30)] → W p l e R s m ([.ref a0, .int x1] : List Value).toArray below meth c H locs 0 0 Q (F0 m 47 ls [.int j47_S0]) := by
              intro j47_S0 H locs ls hj47_S0 hT hS hl
              refine lv_istore_n (lv' := [(2, .int j47_S0), (0, .ref a0), (1, .int x1), (3, .int j19_L3), (4, .int v30)]) hx hb dX10_alike_47 rfl hl (by decide) rfl (fun ls hl => ?_)
              obtain ⟨v48, e48⟩ : ∃ y : Int32, y = j19_L3 + 1 := ⟨_, rfl⟩
              have hv48 : iv v48 2 31 := by rw [e48]; exact iv_w (iv_add hj19_L3_21l (iv_c (x := (1 : Int32)) (k := 1) (by decide)) (by decide)) (by decide)
              have s48 : v48.toInt = j19_L3.toInt + 1 := by rw [e48, iv_addE hj19_L3_21l (iv_c (x := (1 : Int32)) (k := 1) (by decide)) (by decide)]; rfl
              refine lv_iinc (v := v48) (lv' := [(3, .int v48), (2, .int j47_S0), (0, .ref a0), (1, .int x1), (4, .int v30)]) hx hb dX10_alike_48 hl (k := 3) rfl (by rw [e48]; rfl) (by decide) rfl (fun ls hl => ?_)
              refine lv_goto (tgt := 19) hx hb dX10_alike_51 (by decide) ?_
              exact ih19 j47_S0 v48 _ _ _ (ms_up hms19 (by have := s48; omega) (iv_w (c := 2) (d := 31) hv48 (by decide)).2) (iv_w hj47_S0 (by decide)) (iv_w hv48 (by decide)) hT hS (lv_sub hl [2, 3, 1, 0] rfl)
            refine lv_if_eq (tgt := 46) hx hb dX10_alike_39 (by decide) (fun c39 => ?_) (fun c39 => ?_)
            · skip
              have f39 := i_eq c39
              have hv36_39l : iv v36 0 0 := iv_eql hv36 (iv_c (x := (0 : Int32)) (k := 0) (by decide)) c39 (by decide)
              refine lv_iconst (v := (-1)) hx hb dX10_alike_46 (by decide) ?_
              exact J47 (-1 : Int32) _ _ _  (iv_w (iv_c (x := (-1 : Int32)) (k := (-1)) (by decide)) (by decide)) hT hS (lv_sub hl [1, 2, 3, 4, 0] rfl)
            · skip
              have f39 := i_ne c39
              have hv36_39l : iv v36 1 1 := iv_nel hv36 (iv_c (x := (0 : Int32)) (k := 0) (by decide)) c39 (by decide)
              refine lv_iload_n hx hb dX10_alike_42 rfl (lv_at hl 4 rfl) ?_
              refine lv_goto (tgt := 47) hx hb dX10_alike_43 (by decide) ?_
              exact J47 j19_L3 _ _ _  (iv_w hj19_L3_21l (by decide)) hT hS (lv_sub hl [1, 2, 3, 4, 0] rfl)
    refine lv_istore_n (lv' := [(3, .int (1 : Int32)), (2, .int (-1 : Int32)), (0, .ref a0), (1, .int x1)]) hx hb dX10_alike_18 rfl hl (by decide) rfl (fun ls hl => ?_)
    exact J19 _ (-1 : Int32) (1 : Int32) _ _ _ (Nat.lt_succ_self _) (iv_w (iv_c (x := (-1 : Int32)) (k := (-1)) (by decide)) (by decide)) (iv_w (iv_c (x := (1 : Int32)) (k := 1) (by decide)) (by decide)) hT hS (lv_sub hl [2, 3, 1, 0] rfl)
  · skip
    have kl0 : (0 : Int32).toInt = 0 := by decide
    have f5 := i_eq c5
    have hv2_5l : iv v2 0 0 := iv_eql hv2 (iv_c (x := (0 : Int32)) (k := 0) (by decide)) c5 (by decide)
    refine lv_bipush (v := (-2)) hx hb dX10_alike_8 (by decide) ?_
    exact ret _ _ _ _ _ dX10_alike_10 (⟨hT, iv_w (iv_c (x := (-2 : Int32)) (k := (-2)) (by decide)) (by decide)⟩) hS
set_option maxHeartbeats 4000000 in
set_option maxRecDepth 100000 in
theorem t_X10_goodBy (l : Launch) {D : va_G} {c0 : Nat → ClassId} {Y : Nat → Option Nat} {ν : Nat → Nat} {H : Heap} (hT : TI D vwCl (tysOf c0) (RTg ν) Y H) {a0 : Nat} (ha0 : Y a0 = some 10) {x1 : Int32} (hx1 : iv x1 0 7) {x2 : Int32} (hx2 : iv x2 1 30) (hν3 : ν 3 = 0) (hν5 : ν 5 = 0) (hU : uq Y) : Met l yX10_goodBy (wz yX10_goodBy cX10_goodBy 8 (some .int)) { frames := 9, cells := 0, slots := 0, locals := 264 } (TP D vwCl (tysOf c0) H [.ref a0, .int x1, .int x2]) (TQi (fun x H' => TI D vwCl (tysOf c0) (RTg ν) Y H') Y [10, 29, 30, 41, 42, 43]) 0 0 (pW Y [10, 29, 30, 41, 42, 43]) := by
  refine Met.ofW (cc := cX10_goodBy) (maxL := 8) (ret := (some .int)) (by decide) rfl ?_
  intro p e s m args below meth c s₁ B hml hv
  obtain ⟨rfl, rfl, hK⟩ := hv
  have hx := B.exec
  have hb := B.bytes
  have hr := B.returns
  have hts : ∀ w ∈ wq, w.before _ s = true := fun w h => atoms_spec (ws := wz yX10_goodBy cX10_goodBy 8 (some .int)) B.pre w (List.mem_cons_of_mem _ h)
  have hown : s.vm.findClass RX10 = some m.cls := findClass_of_methodNamed B.named
  have hlocks := B.notSynchronized
  obtain ⟨R, hR⟩ : ∃ R : Room, R = ({ frames := 9, cells := 0, slots := 0, locals := 264 } : Room) := ⟨_, rfl⟩
  rw [show (headSpec (wz yX10_goodBy cX10_goodBy 8 (some .int)) { frames := 9, cells := 0, slots := 0, locals := 264 }).room = R from hR.symm]
  refine ti_mi hx hb hr hlocks (fun Q ret => ?_)
  have hl := lv_entry [.ref a0, .int x1, .int x2] (n := 8) (Nat.le_of_ble_eq_true rfl)
  rw [lg_entry_eq]
  generalize (lg_sl [.ref a0, .int x1, .int x2] ++ List.replicate (8 - (lg_sl [.ref a0, .int x1, .int x2]).length) Slot.unset).toArray = ls at hl ⊢
  have hl : lv_has ls 8 [(0, .ref a0), (1, .int x1), (2, .int x2)] := hl
  refine ti_gen (P := fun H => TI D vwCl (tysOf c0) (RTg ν) Y H) (Y := Y) (ws := [10, 29, 30, 41, 42, 43]) hT (fun H locs hT hS => ?_)
  refine lv_aload_n hx hb dX10_goodBy_0 rfl (lv_at hl 0 rfl) ?_
  refine lv_iload_n hx hb dX10_goodBy_1 rfl (lv_at hl 1 rfl) ?_
  refine lv_iconst (v := 2) hx hb dX10_goodBy_2 (by decide) ?_
  refine ti_calli (va_runV (As := [.int x1, .int (2 : Int32)]) (rest := []) ⟨hx, hb, hml, hown, hts⟩ (t_X10_of l hT ha0 (iv_w hx1 (by decide)) (iv_w (iv_c (x := (2 : Int32)) (k := 2) (by decide)) (by decide)) hU) (cwV 2 hts (good_V kw_490 kw_491 kw_492 kw_5 kw_493) rfl rfl rfl (by decide +kernel) ⟨by rw [hR]; decide, by rw [hR]; decide⟩) (ti_preV hK hT ha0 rfl rfl) rfl rfl hl.1 rfl (lv_room (Nat.le_of_ble_eq_true rfl)) dX10_goodBy_3 ⟨Nat.zero_le _, Nat.zero_le _⟩) hS (pW_sub rfl) (fun v3 H1 locs hB hS _ hk3 => ?_)
  obtain ⟨hH, hp3⟩ := hB
  rw [hH] at hS ⊢
  have kl2 : (2 : Int32).toInt = 2 := by decide
  refine lv_istore_n (lv' := [(3, .int v3), (0, .ref a0), (1, .int x1), (2, .int x2)]) hx hb dX10_goodBy_6 rfl hl (by decide) rfl (fun ls hl => ?_)
  refine lv_aload_n hx hb dX10_goodBy_7 rfl (lv_at hl 1 rfl) ?_
  refine lv_iload_n hx hb dX10_goodBy_8 rfl (lv_at hl 2 rfl) ?_
  refine lv_iconst (v := 3) hx hb dX10_goodBy_9 (by decide) ?_
  refine ti_calli (va_runV (As := [.int x1, .int (3 : Int32)]) (rest := []) ⟨hx, hb, hml, hown, hts⟩ (t_X10_of l hT ha0 (iv_w hx1 (by decide)) (iv_w (iv_c (x := (3 : Int32)) (k := 3) (by decide)) (by decide)) hU) (cwV 2 hts (good_V kw_490 kw_491 kw_492 kw_5 kw_493) rfl rfl rfl (by decide +kernel) ⟨by rw [hR]; decide, by rw [hR]; decide⟩) (ti_preV hK hT ha0 rfl rfl) rfl rfl hl.1 rfl (lv_room (Nat.le_of_ble_eq_true rfl)) dX10_goodBy_10 ⟨Nat.zero_le _, Nat.zero_le _⟩) hS (pW_sub rfl) (fun v10 H1 locs hB hS _ hk10 => ?_)
  obtain ⟨hH, hp10⟩ := hB
  rw [hH] at hS ⊢
  have kl3 : (3 : Int32).toInt = 3 := by decide
  refine lv_istore (lv' := [(4, .int v10), (3, .int v3), (0, .ref a0), (1, .int x1), (2, .int x2)]) hx hb dX10_goodBy_13 hl (by decide) rfl (fun ls hl => ?_)
  refine lv_aload_n hx hb dX10_goodBy_15 rfl (lv_at hl 2 rfl) ?_
  refine lv_iload_n hx hb dX10_goodBy_16 rfl (lv_at hl 3 rfl) ?_
  refine lv_iconst (v := 4) hx hb dX10_goodBy_17 (by decide) ?_
  refine ti_calli (va_runV (As := [.int x1, .int (4 : Int32)]) (rest := []) ⟨hx, hb, hml, hown, hts⟩ (t_X10_of l hT ha0 (iv_w hx1 (by decide)) (iv_w (iv_c (x := (4 : Int32)) (k := 4) (by decide)) (by decide)) hU) (cwV 2 hts (good_V kw_490 kw_491 kw_492 kw_5 kw_493) rfl rfl rfl (by decide +kernel) ⟨by rw [hR]; decide, by rw [hR]; decide⟩) (ti_preV hK hT ha0 rfl rfl) rfl rfl hl.1 rfl (lv_room (Nat.le_of_ble_eq_true rfl)) dX10_goodBy_18 ⟨Nat.zero_le _, Nat.zero_le _⟩) hS (pW_sub rfl) (fun v18 H1 locs hB hS _ hk18 => ?_)
  obtain ⟨hH, hp18⟩ := hB
  rw [hH] at hS ⊢
  have kl4 : (4 : Int32).toInt = 4 := by decide
  refine lv_istore (lv' := [(5, .int v18), (4, .int v10), (3, .int v3), (0, .ref a0), (1, .int x1), (2, .int x2)]) hx hb dX10_goodBy_21 hl (by decide) rfl (fun ls hl => ?_)
  refine lv_aload_n hx hb dX10_goodBy_23 rfl (lv_at hl 3 rfl) ?_
  refine ti_callv (va_runV (As := []) (rest := []) ⟨hx, hb, hml, hown, hts⟩ (t_X10_thinks l hT ha0 hν3 hν5 hU) (cwV 0 hts (good_V kw_819 kw_820 kw_821 kw_5 kw_822) rfl rfl rfl (by decide +kernel) ⟨by rw [hR]; decide, by rw [hR]; decide⟩) (ti_preV hK hT ha0 rfl rfl) rfl rfl hl.1 rfl (lv_room (Nat.le_of_ble_eq_true rfl)) dX10_goodBy_24 ⟨Nat.zero_le _, Nat.zero_le _⟩) hS (pW_sub rfl) (fun H locs hB hS _ hk24 => ?_)
  have hT := hB
  refine lv_iconst (v := 0) hx hb dX10_goodBy_27 (by decide) ?_
  have J30 : ∀ (n : Nat) (j30_L6 : Int32) (H : Heap) (locs : List Loc) (ls : Array Slot), (30 - j30_L6.toInt).toNat < n → iv j30_L6 0 30 → TI D vwCl (tysOf c0) (RTg (νt ν)) Y H → va_S (pW Y [10, 29, 30, 41, 42, 43]) s.heap H locs → lv_has ls 8 [(0, .ref a0), (1, .int x1), (2, .int x2), (3, .int v3), (4, .int v10), (5, .int v18), (6, .int j30_L6)] → W p l e R s m ([.ref a0, .int x1, .int x2] : List Value).toArray below meth c H locs 0 0 Q (F0 m 30 ls []) := by
    intro n
    induction n with
    | zero => intro j30_L6 H locs ls hms; exact absurd hms (Nat.not_lt_zero _)
    | succ n ih30 =>
      intro j30_L6 H locs ls hms30 hj30_L6 hT hS hl
      refine lv_iload hx hb dX10_goodBy_30 (lv_at hl 6 rfl) ?_
      refine lv_iload_n hx hb dX10_goodBy_32 rfl (lv_at hl 2 rfl) ?_
      refine lv_icmp_ge (tgt := 99) hx hb dX10_goodBy_33 (by decide) (fun c33 => ?_) (fun c33 => ?_)
      · skip
        have f33 := i_le c33
        have hj30_L6_33r : iv j30_L6 1 30 := iv_ler hx2 hj30_L6 c33 (by decide)
        refine lv_aload_n hx hb dX10_goodBy_99 rfl (lv_at hl 0 rfl) ?_
        refine lv_iload_n hx hb dX10_goodBy_100 rfl (lv_at hl 1 rfl) ?_
        refine lv_iconst (v := 4) hx hb dX10_goodBy_101 (by decide) ?_
        refine ti_calli (va_runV (As := [.int x1, .int (4 : Int32)]) (rest := []) ⟨hx, hb, hml, hown, hts⟩ (t_X10_of l hT ha0 (iv_w hx1 (by decide)) (iv_w (iv_c (x := (4 : Int32)) (k := 4) (by decide)) (by decide)) hU) (cwV 2 hts (good_V kw_490 kw_491 kw_492 kw_5 kw_493) rfl rfl rfl (by decide +kernel) ⟨by rw [hR]; decide, by rw [hR]; decide⟩) (ti_preV hK hT ha0 rfl rfl) rfl rfl hl.1 rfl (lv_room (Nat.le_of_ble_eq_true rfl)) dX10_goodBy_102 ⟨Nat.zero_le _, Nat.zero_le _⟩) hS (pW_sub rfl) (fun v102 H1 locs hB hS _ hk102 => ?_)
        obtain ⟨hH, hp102⟩ := hB
        rw [hH] at hS ⊢
        refine lv_istore (lv' := [(6, .int v102), (0, .ref a0), (1, .int x1), (2, .int x2), (3, .int v3), (4, .int v10), (5, .int v18)]) hx hb dX10_goodBy_105 hl (by decide) rfl (fun ls hl => ?_)
        refine lv_aload_n hx hb dX10_goodBy_107 rfl (lv_at hl 1 rfl) ?_
        refine ti_callv (va_runV (As := []) (rest := []) ⟨hx, hb, hml, hown, hts⟩ (t_X10_wakes l hT ha0 rfl rfl hU) (cwV 0 hts (good_V kw_824 kw_825 kw_826 kw_5 kw_827) rfl rfl rfl (by decide +kernel) ⟨by rw [hR]; decide, by rw [hR]; decide⟩) (ti_preV hK hT ha0 rfl rfl) rfl rfl hl.1 rfl (lv_room (Nat.le_of_ble_eq_true rfl)) dX10_goodBy_108 ⟨Nat.zero_le _, Nat.zero_le _⟩) hS (pW_sub rfl) (fun H locs hB hS _ hk108 => ?_)
        have hT := hB
        rw [nu_back hν3 hν5] at hT
        refine lv_iload hx hb dX10_goodBy_111 (lv_at hl 0 rfl) ?_
        refine lv_iload hx hb dX10_goodBy_113 (lv_at hl 6 rfl) ?_
        refine lv_isub hx hb dX10_goodBy_115 ?_
        refine lv_topi (fun v115 e115 => ?_)
        have hv115 : iv v115 (-2147483648) 2147483647 := iv_top _
        exact ret _ _ _ _ _ dX10_goodBy_116 (hT) hS
      · skip
        have f33 := i_nle c33
        have hj30_L6_33l : iv j30_L6 0 29 := iv_ltl hj30_L6 hx2 (Int32.not_le.mp c33) (by decide)
        refine lv_aload_n hx hb dX10_goodBy_36 rfl (lv_at hl 0 rfl) ?_
        refine lv_iload_n hx hb dX10_goodBy_37 rfl (lv_at hl 1 rfl) ?_
        refine lv_iconst (v := 2) hx hb dX10_goodBy_38 (by decide) ?_
        refine lv_aload_n hx hb dX10_goodBy_39 rfl (lv_at hl 0 rfl) ?_
        refine ti_getr hx hb hts inlX10 hown hK hT ha0 rfl rfl rfl 31 (by decide) (hts _ kw_148) (fun _ h9 => h9) rfl dX10_goodBy_40 (fun v40 hv40 hm40 => ?_)
        refine lv_iload hx hb dX10_goodBy_43 (lv_at hl 6 rfl) ?_
        refine ti_iald (lo := (-2147483648)) (hi := 2147483647) hx hb (aT0 hK) hT hv40 rfl hj30_L6_33l (by decide) (fun _ _ _ => ⟨_, _, rfl, by decide, by decide⟩) dX10_goodBy_45 (fun v45 hv45 hm45 => ?_)
        refine ti_callv (va_runV (As := [.int x1, .int (2 : Int32), .int v45]) (rest := []) ⟨hx, hb, hml, hown, hts⟩ (t_X10_set l hT ha0 (iv_w hx1 (by decide)) (iv_w (iv_c (x := (2 : Int32)) (k := 2) (by decide)) (by decide)) (iv_w hv45 (by decide)) (fun h9 => by have b0a := (hx1).1; have b0b := (hx1).2; have b1a := (hv45).1; have b1b := (hv45).2; omega) hU) (cwV 3 hts (good_V kw_511 kw_512 kw_513 kw_5 kw_514) rfl rfl rfl (by decide +kernel) ⟨by rw [hR]; decide, by rw [hR]; decide⟩) (ti_preV hK hT ha0 rfl rfl) rfl rfl hl.1 rfl (lv_room (Nat.le_of_ble_eq_true rfl)) dX10_goodBy_46 ⟨Nat.zero_le _, Nat.zero_le _⟩) hS (pW_sub rfl) (fun H locs hB hS _ hk46 => ?_)
        obtain ⟨hT, hp46⟩ := hB
        refine lv_aload_n hx hb dX10_goodBy_49 rfl (lv_at hl 0 rfl) ?_
        refine lv_iload_n hx hb dX10_goodBy_50 rfl (lv_at hl 1 rfl) ?_
        refine lv_iconst (v := 3) hx hb dX10_goodBy_51 (by decide) ?_
        refine lv_aload_n hx hb dX10_goodBy_52 rfl (lv_at hl 0 rfl) ?_
        refine ti_getE (ci := 10) (v := .ref v40) hx hb hts inlX10 hown hK (hm40.call hk46 (pW_not ha0 rfl)) rfl (by decide) (hts _ kw_148) (fun _ h9 => h9) dX10_goodBy_53 ?_
        refine lv_iload hx hb dX10_goodBy_56 (lv_at hl 6 rfl) ?_
        refine ti_ialdE (v := .int v45) hx hb (aT0 hK) hT hv40 rfl hj30_L6_33l (by decide) ((hm45.call hk46 (pW_not hv40 rfl))) dX10_goodBy_58 ?_
        refine lv_iload_n hx hb dX10_goodBy_59 rfl (lv_at hl 3 rfl) ?_
        have J84 : ∀ (j84_S3 : Int32) (H : Heap) (locs : List Loc) (ls : Array Slot), iv j84_S3 (-2147483648) 2147483647 → TI D vwCl (tysOf c0) (RTg (νt ν)) Y H → va_S (pW Y [10, 29, 30, 41, 42, 43]) s.heap H locs → lv_has ls 8 [(0, .ref a0), (1, .int x1), (2, .int x2), (3, .int v3), (4, .int v10), (5, .int v18), (6, .int j30_L6)] → W p l e R s m ([.ref a0, .int x1, .int x2] : List Value).toArray below meth c H locs 0 0 Q (F0 m 84 ls [.int j84_S3, .int (3 : Int32), .int x1, .ref a0]) := by
          intro j84_S3 H locs ls hj84_S3 hT hS hl
          refine ti_callv (va_runV (As := [.int x1, .int (3 : Int32), .int j84_S3]) (rest := []) ⟨hx, hb, hml, hown, hts⟩ (t_X10_set l hT ha0 (iv_w hx1 (by decide)) (iv_w (iv_c (x := (3 : Int32)) (k := 3) (by decide)) (by decide)) (iv_w hj84_S3 (by decide)) (fun h9 => by have b0a := (hx1).1; have b0b := (hx1).2; have b1a := (hj84_S3).1; have b1b := (hj84_S3).2; omega) hU) (cwV 3 hts (good_V kw_511 kw_512 kw_513 kw_5 kw_514) rfl rfl rfl (by decide +kernel) ⟨by rw [hR]; decide, by rw [hR]; decide⟩) (ti_preV hK hT ha0 rfl rfl) rfl rfl hl.1 rfl (lv_room (Nat.le_of_ble_eq_true rfl)) dX10_goodBy_84 ⟨Nat.zero_le _, Nat.zero_le _⟩) hS (pW_sub rfl) (fun H locs hB hS _ hk84 => ?_)
          obtain ⟨hT, hp84⟩ := hB
          refine lv_aload_n hx hb dX10_goodBy_87 rfl (lv_at hl 0 rfl) ?_
          refine ti_calli (va_runV (As := []) (rest := []) ⟨hx, hb, hml, hown, hts⟩ (t_X10_day l hT ha0 hU) (cwV 0 hts (good_V kw_944 kw_945 kw_946 kw_5 kw_947) rfl rfl rfl (by decide +kernel) ⟨by rw [hR]; decide, by rw [hR]; decide⟩) (ti_preV hK hT ha0 rfl rfl) rfl rfl hl.1 rfl (lv_room (Nat.le_of_ble_eq_true rfl)) dX10_goodBy_88 ⟨Nat.zero_le _, Nat.zero_le _⟩) hS (pW_sub rfl) (fun v88 H locs hB hS _ hk88 => ?_)
          have hT := hB
          refine lv_istore (lv' := [(7, .int v88), (0, .ref a0), (1, .int x1), (2, .int x2), (3, .int v3), (4, .int v10), (5, .int v18), (6, .int j30_L6)]) hx hb dX10_goodBy_91 hl (by decide) rfl (fun ls hl => ?_)
          obtain ⟨v93, e93⟩ : ∃ y : Int32, y = j30_L6 + 1 := ⟨_, rfl⟩
          have hv93 : iv v93 1 30 := by rw [e93]; exact iv_w (iv_add hj30_L6_33l (iv_c (x := (1 : Int32)) (k := 1) (by decide)) (by decide)) (by decide)
          have s93 : v93.toInt = j30_L6.toInt + 1 := by rw [e93, iv_addE hj30_L6_33l (iv_c (x := (1 : Int32)) (k := 1) (by decide)) (by decide)]; rfl
          refine lv_iinc (v := v93) (lv' := [(6, .int v93), (7, .int v88), (0, .ref a0), (1, .int x1), (2, .int x2), (3, .int v3), (4, .int v10), (5, .int v18)]) hx hb dX10_goodBy_93 hl (k := 7) rfl (by rw [e93]; rfl) (by decide) rfl (fun ls hl => ?_)
          refine lv_goto (tgt := 30) hx hb dX10_goodBy_96 (by decide) ?_
          exact ih30 v93 _ _ _ (ms_up hms30 (by have := s93; omega) (iv_w (c := 1) (d := 30) hv93 (by decide)).2) (iv_w hv93 (by decide)) hT hS (lv_sub hl [2, 3, 4, 5, 6, 7, 0] rfl)
        refine lv_icmp_ne (tgt := 68) hx hb dX10_goodBy_60 (by decide) (fun c60 => ?_) (fun c60 => ?_)
        · skip
          have f60 := i_ne c60
          refine lv_aload_n hx hb dX10_goodBy_68 rfl (lv_at hl 0 rfl) ?_
          refine ti_getE (ci := 10) (v := .ref v40) hx hb hts inlX10 hown hK (hm40.call hk46 (pW_not ha0 rfl)) rfl (by decide) (hts _ kw_148) (fun _ h9 => h9) dX10_goodBy_69 ?_
          refine lv_iload hx hb dX10_goodBy_72 (lv_at hl 6 rfl) ?_
          refine ti_ialdE (v := .int v45) hx hb (aT0 hK) hT hv40 rfl hj30_L6_33l (by decide) ((hm45.call hk46 (pW_not hv40 rfl))) dX10_goodBy_74 ?_
          refine lv_iconst (v := 3) hx hb dX10_goodBy_75 (by decide) ?_
          refine lv_icmp_ne (tgt := 83) hx hb dX10_goodBy_76 (by decide) (fun c76 => ?_) (fun c76 => ?_)
          · skip
            have f76 := i_ne c76
            refine lv_iconst (v := 0) hx hb dX10_goodBy_83 (by decide) ?_
            exact J84 (0 : Int32) _ _ _  (iv_w (iv_c (x := (0 : Int32)) (k := 0) (by decide)) (by decide)) hT hS (lv_sub hl [0, 1, 2, 3, 4, 5, 6] rfl)
          · skip
            have f76 := i_eq c76
            have hv45_76l : iv v45 3 3 := iv_eql hv45 (iv_c (x := (3 : Int32)) (k := 3) (by decide)) c76 (by decide)
            refine lv_iconst (v := 3) hx hb dX10_goodBy_79 (by decide) ?_
            refine lv_goto (tgt := 84) hx hb dX10_goodBy_80 (by decide) ?_
            exact J84 (3 : Int32) _ _ _  (iv_w (iv_c (x := (3 : Int32)) (k := 3) (by decide)) (by decide)) hT hS (lv_sub hl [0, 1, 2, 3, 4, 5, 6] rfl)
        · skip
          have f60 := i_eq c60
          refine lv_iload hx hb dX10_goodBy_63 (lv_at hl 4 rfl) ?_
          refine lv_goto (tgt := 84) hx hb dX10_goodBy_65 (by decide) ?_
          exact J84 v10 _ _ _  (iv_w (iv_top v10) (by decide)) hT hS (lv_sub hl [0, 1, 2, 3, 4, 5, 6] rfl)
  refine lv_istore (lv' := [(6, .int (0 : Int32)), (5, .int v18), (4, .int v10), (3, .int v3), (0, .ref a0), (1, .int x1), (2, .int x2)]) hx hb dX10_goodBy_28 hl (by decide) rfl (fun ls hl => ?_)
  exact J30 _ (0 : Int32) _ _ _ (Nat.lt_succ_self _) (iv_w (iv_c (x := (0 : Int32)) (k := 0) (by decide)) (by decide)) hT hS (lv_sub hl [4, 5, 6, 3, 2, 1, 0] rfl)
set_option maxHeartbeats 4000000 in
set_option maxRecDepth 100000 in
theorem t_X10_follows (l : Launch) {D : va_G} {c0 : Nat → ClassId} {Y : Nat → Option Nat} {ν : Nat → Nat} {H : Heap} (hT : TI D vwCl (tysOf c0) (RTg ν) Y H) {a0 : Nat} (ha0 : Y a0 = some 10) {x1 : Int32} (hx1 : iv x1 (-2147483648) 2147483647) {x2 : Int32} (hx2 : iv x2 (-2147483648) 2147483647) (hν3 : ν 3 = 0) (hν5 : ν 5 = 0) (hνb : ∀ j, j < 4 → ν (6 + j) ≤ 61) (hU : uq Y) : Met l yX10_follows (wz yX10_follows cX10_follows 4 (some .int)) { frames := 10, cells := 0, slots := 0, locals := 291 } (TP D vwCl (tysOf c0) H [.ref a0, .int x1, .int x2]) (TQi (fun x H' => TI D vwCl (tysOf c0) (RTg ν) Y H') Y [10, 29, 30, 41, 42, 43, 44]) 0 0 (pW Y [10, 29, 30, 41, 42, 43, 44]) := by
  refine Met.ofW (cc := cX10_follows) (maxL := 4) (ret := (some .int)) (by decide) rfl ?_
  intro p e s m args below meth c s₁ B hml hv
  obtain ⟨rfl, rfl, hK⟩ := hv
  have hx := B.exec
  have hb := B.bytes
  have hr := B.returns
  have hts : ∀ w ∈ wq, w.before _ s = true := fun w h => atoms_spec (ws := wz yX10_follows cX10_follows 4 (some .int)) B.pre w (List.mem_cons_of_mem _ h)
  have hown : s.vm.findClass RX10 = some m.cls := findClass_of_methodNamed B.named
  have hlocks := B.notSynchronized
  obtain ⟨R, hR⟩ : ∃ R : Room, R = ({ frames := 10, cells := 0, slots := 0, locals := 291 } : Room) := ⟨_, rfl⟩
  rw [show (headSpec (wz yX10_follows cX10_follows 4 (some .int)) { frames := 10, cells := 0, slots := 0, locals := 291 }).room = R from hR.symm]
  refine ti_mi hx hb hr hlocks (fun Q ret => ?_)
  have hl := lv_entry [.ref a0, .int x1, .int x2] (n := 4) (Nat.le_of_ble_eq_true rfl)
  rw [lg_entry_eq]
  generalize (lg_sl [.ref a0, .int x1, .int x2] ++ List.replicate (4 - (lg_sl [.ref a0, .int x1, .int x2]).length) Slot.unset).toArray = ls at hl ⊢
  have hl : lv_has ls 4 [(0, .ref a0), (1, .int x1), (2, .int x2)] := hl
  refine ti_gen (P := fun H => TI D vwCl (tysOf c0) (RTg ν) Y H) (Y := Y) (ws := [10, 29, 30, 41, 42, 43, 44]) hT (fun H locs hT hS => ?_)
  refine lv_aload_n hx hb dX10_follows_0 rfl (lv_at hl 0 rfl) ?_
  refine lv_iload_n hx hb dX10_follows_1 rfl (lv_at hl 1 rfl) ?_
  refine ti_calli (va_runV (As := [.int x1]) (rest := []) ⟨hx, hb, hml, hown, hts⟩ (t_X10_isPerson l hT ha0 (iv_w hx1 (by decide)) hU) (cwV 1 hts (good_V kw_486 kw_487 kw_488 kw_5 kw_489) rfl rfl rfl (by decide +kernel) ⟨by rw [hR]; decide, by rw [hR]; decide⟩) (ti_preV hK hT ha0 rfl rfl) rfl rfl hl.1 rfl (lv_room (Nat.le_of_ble_eq_true rfl)) dX10_follows_2 ⟨Nat.zero_le _, Nat.zero_le _⟩) hS (pW_sub rfl) (fun v2 H1 locs hB hS _ hk2 => ?_)
  obtain ⟨hH, hv2, hp2⟩ := hB
  rw [hH] at hS ⊢
  have J42 : ∀  (H : Heap) (locs : List Loc) (ls : Array Slot), TI D vwCl (tysOf c0) (RTg ν) Y H → va_S (pW Y [10, 29, 30, 41, 42, 43, 44]) s.heap H locs → lv_has ls 4 [(0, .ref a0), (1, .int x1), (2, .int x2)] → W p l e R s m ([.ref a0, .int x1, .int x2] : List Value).toArray below meth c H locs 0 0 Q (F0 m 42 ls []) := by
    intro  H locs ls  hT hS hl
    refine lv_ldcw (v := (-2000000000)) hx hb hown (hts _ kw_960) dX10_follows_42 ?_
    exact ret _ _ _ _ _ dX10_follows_45 (hT) hS
  refine lv_if_eq (tgt := 42) hx hb dX10_follows_5 (by decide) (fun c5 => ?_) (fun c5 => ?_)
  · skip
    have kl0 : (0 : Int32).toInt = 0 := by decide
    have f5 := i_eq c5
    have hv2_5l : iv v2 0 0 := iv_eql hv2 (iv_c (x := (0 : Int32)) (k := 0) (by decide)) c5 (by decide)
    exact J42  _ _ _   hT hS (lv_sub hl [0, 1, 2] rfl)
  · skip
    have kl0 : (0 : Int32).toInt = 0 := by decide
    have f5 := i_ne c5
    have hv2_5l : iv v2 1 1 := iv_nel hv2 (iv_c (x := (0 : Int32)) (k := 0) (by decide)) c5 (by decide)
    have hx1_5p : iv x1 0 7 := by have b0a := (hx1).1; have b0b := (hx1).2; exact ⟨by omega, by omega⟩
    refine lv_iload_n hx hb dX10_follows_8 rfl (lv_at hl 2 rfl) ?_
    refine ti_calli (va_runS (As := [.int x2]) (rest := []) ⟨hx, hb, hml, hown, hts⟩ (t_X10_isSlot l hT (iv_w hx2 (by decide))) (cwS 1 hts (good_S kw_816 kw_817 kw_5 kw_818) rfl rfl rfl (by decide +kernel) ⟨by rw [hR]; decide, by rw [hR]; decide⟩) (ti_preS hK) rfl rfl hl.1 rfl (lv_room (Nat.le_of_ble_eq_true rfl)) dX10_follows_9 ⟨Nat.zero_le _, Nat.zero_le _⟩) hS (pW_sub rfl) (fun v9 H1 locs hB hS _ hk9 => ?_)
    obtain ⟨hH, hv9, hp9⟩ := hB
    rw [hH] at hS ⊢
    refine lv_if_eq (tgt := 42) hx hb dX10_follows_12 (by decide) (fun c12 => ?_) (fun c12 => ?_)
    · skip
      have f12 := i_eq c12
      have hv9_12l : iv v9 0 0 := iv_eql hv9 (iv_c (x := (0 : Int32)) (k := 0) (by decide)) c12 (by decide)
      exact J42  _ _ _   hT hS (lv_sub hl [0, 1, 2] rfl)
    · skip
      have f12 := i_ne c12
      have hv9_12l : iv v9 1 1 := iv_nel hv9 (iv_c (x := (0 : Int32)) (k := 0) (by decide)) c12 (by decide)
      have hx2_12p : iv x2 0 3 := by have b0a := (hx2).1; have b0b := (hx2).2; exact ⟨by omega, by omega⟩
      refine lv_aload_n hx hb dX10_follows_15 rfl (lv_at hl 0 rfl) ?_
      refine ti_getr hx hb hts inlX10 hown hK hT ha0 rfl rfl rfl 34 (by decide) (hts _ kw_151) (fun _ h9 => h9) rfl dX10_follows_16 (fun v16 hv16 hm16 => ?_)
      refine lv_iload_n hx hb dX10_follows_19 rfl (lv_at hl 2 rfl) ?_
      refine ti_ialdD hx hb (aT0 hK) hT hv16 rfl hx2_12p (by decide) (fun j => ⟨_, _, rfl⟩) dX10_follows_20 (fun v20 hz20 _ => ?_)
      have s20 : v20.toInt = (ν (6 + x2.toNatClampNeg) : Int) - 1 := many_e hz20
      have hv20 : iv v20 (-1) 60 := many_iv hνb s20 hx2_12p (by decide)
      refine lv_iconst (v := (-1)) hx hb dX10_follows_21 (by decide) ?_
      refine lv_icmp_eq (tgt := 42) hx hb dX10_follows_22 (by decide) (fun c22 => ?_) (fun c22 => ?_)
      · skip
        have klm1 : (-1 : Int32).toInt = (-1) := by decide
        have f22 := i_eq c22
        have hv20_22l : iv v20 (-1) (-1) := iv_eql hv20 (iv_c (x := (-1 : Int32)) (k := (-1)) (by decide)) c22 (by decide)
        exact J42  _ _ _   hT hS (lv_sub hl [0, 1, 2] rfl)
      · skip
        have klm1 : (-1 : Int32).toInt = (-1) := by decide
        have f22 := i_ne c22
        have hv20_22l : iv v20 0 60 := iv_nel hv20 (iv_c (x := (-1 : Int32)) (k := (-1)) (by decide)) c22 (by decide)
        refine lv_aload_n hx hb dX10_follows_25 rfl (lv_at hl 0 rfl) ?_
        refine ti_getE (ci := 10) (v := .ref v16) hx hb hts inlX10 hown hK hm16 rfl (by decide) (hts _ kw_151) (fun _ h9 => h9) dX10_follows_26 ?_
        refine lv_iload_n hx hb dX10_follows_29 rfl (lv_at hl 2 rfl) ?_
        refine ti_ialdD hx hb (aT0 hK) hT hv16 rfl hx2_12p (by decide) (fun j => ⟨_, _, rfl⟩) dX10_follows_30 (fun v30 hz30 _ => ?_)
        have s30 : v30.toInt = (ν (6 + x2.toNatClampNeg) : Int) - 1 := many_e hz30
        have hv30 : iv v30 (-1) 60 := many_iv hνb s30 hx2_12p (by decide)
        have hq30_106 : iv v30 0 60 := by have b0a := (hv20_22l).1; have b0b := (hv20_22l).2; have b1a := (hv30).1; have b1b := (hv30).2; exact ⟨by omega, by omega⟩
        refine lv_i2l hx hb dX10_follows_31 rfl ?_
        refine lv_topl (fun v31 e31 => ?_)
        have hv31 : jv v31 0 60 := by rw [e31]; exact jv_i hq30_106
        have t31 : v31.toInt = v30.toInt := by rw [e31]; exact jv_e _
        refine lv_lconst (v := 1) hx hb dX10_follows_32 (by decide) ?_
        have kj1 : (1 : Int64).toInt = 1 := by decide
        refine lv_ldc2 (v := 30) hx hb hown (hts _ kw_524) dX10_follows_33 ?_
        have kj30 : (30 : Int64).toInt = 30 := by decide
        refine ti_calli (va_runS (As := [.long v31, .long (1 : Int64), .long (30 : Int64)]) (rest := []) ⟨hx, hb, hml, hown, hts⟩ (t_X10_in l hT (jv_w hv31 (by decide)) (jv_w (jv_c (x := (1 : Int64)) (k := 1) (by decide)) (by decide)) (jv_w (jv_c (x := (30 : Int64)) (k := 30) (by decide)) (by decide))) (cwS 3 hts (good_S kw_181 kw_182 kw_5 kw_183) rfl rfl rfl (by decide +kernel) ⟨by rw [hR]; decide, by rw [hR]; decide⟩) (ti_preS hK) rfl rfl hl.1 rfl (lv_room (Nat.le_of_ble_eq_true rfl)) dX10_follows_36 ⟨Nat.zero_le _, Nat.zero_le _⟩) hS (pW_sub rfl) (fun v36 H1 locs hB hS _ hk36 => ?_)
        obtain ⟨hH, hv36, hp36⟩ := hB
        rw [hH] at hS ⊢
        refine lv_if_ne (tgt := 46) hx hb dX10_follows_39 (by decide) (fun c39 => ?_) (fun c39 => ?_)
        · skip
          have f39 := i_ne c39
          have hv36_39l : iv v36 1 1 := iv_nel hv36 (iv_c (x := (0 : Int32)) (k := 0) (by decide)) c39 (by decide)
          have hv31_39p : jv v31 1 30 := by have b0a := (hv31).1; have b0b := (hv31).2; have b1a := ((jv_c (x := (1 : Int64)) (k := 1) (by decide))).1; have b1b := ((jv_c (x := (1 : Int64)) (k := 1) (by decide))).2; have b2a := ((jv_c (x := (30 : Int64)) (k := 30) (by decide))).1; have b2b := ((jv_c (x := (30 : Int64)) (k := 30) (by decide))).2; exact ⟨by omega, by omega⟩
          have hv30_39p : iv v30 1 30 := by have := t31; have b0a := (hv31_39p).1; have b0b := (hv31_39p).2; have b1a := (hq30_106).1; have b1b := (hq30_106).2; exact ⟨by omega, by omega⟩
          refine lv_iconst (v := 0) hx hb dX10_follows_46 (by decide) ?_
          have J48 : ∀ (n : Nat) (j48_L3 : Int32) (H : Heap) (locs : List Loc) (ls : Array Slot), (30 - j48_L3.toInt).toNat < n → iv j48_L3 0 30 → TI D vwCl (tysOf c0) (RTg ν) Y H → va_S (pW Y [10, 29, 30, 41, 42, 43, 44]) s.heap H locs → lv_has ls 4 [(0, .ref a0), (1, .int x1), (2, .int x2), (3, .int j48_L3)] → W p l e R s m ([.ref a0, .int x1, .int x2] : List Value).toArray below meth c H locs 0 0 Q (F0 m 48 ls []) := by
            intro n
            induction n with
            | zero => intro j48_L3 H locs ls hms; exact absurd hms (Nat.not_lt_zero _)
            | succ n ih48 =>
              intro j48_L3 H locs ls hms48 hj48_L3 hT hS hl
              refine lv_iload_n hx hb dX10_follows_48 rfl (lv_at hl 3 rfl) ?_
              refine lv_aload_n hx hb dX10_follows_49 rfl (lv_at hl 0 rfl) ?_
              refine ti_getr hx hb hts inlX10 hown hK hT ha0 rfl rfl rfl 34 (by decide) (hts _ kw_151) (fun _ h9 => h9) rfl dX10_follows_50 (fun v50 hv50 hm50 => ?_)
              obtain rfl : v16 = v50 := hU 37 v16 v50 (by decide) hv16 hv50
              refine lv_iload_n hx hb dX10_follows_53 rfl (lv_at hl 2 rfl) ?_
              refine ti_ialdD hx hb (aT0 hK) hT hv16 rfl hx2_12p (by decide) (fun j => ⟨_, _, rfl⟩) dX10_follows_54 (fun v54 hz54 _ => ?_)
              have s54 : v54.toInt = (ν (6 + x2.toNatClampNeg) : Int) - 1 := many_e hz54
              have hv54 : iv v54 (-1) 60 := many_iv hνb s54 hx2_12p (by decide)
              have hq54_107 : iv v54 0 60 := by have b0a := (hv20_22l).1; have b0b := (hv20_22l).2; have b1a := (hv54).1; have b1b := (hv54).2; exact ⟨by omega, by omega⟩
              have hq54_108 : iv v54 1 30 := by have b0a := (hv30_39p).1; have b0b := (hv30_39p).2; have b1a := (hq54_107).1; have b1b := (hq54_107).2; exact ⟨by omega, by omega⟩
              refine lv_icmp_ge (tgt := 107) hx hb dX10_follows_55 (by decide) (fun c55 => ?_) (fun c55 => ?_)
              · skip
                have f55 := i_le c55
                have hj48_L3_55r : iv j48_L3 1 30 := iv_ler hq54_108 hj48_L3 c55 (by decide)
                refine lv_aload_n hx hb dX10_follows_107 rfl (lv_at hl 0 rfl) ?_
                refine lv_iload_n hx hb dX10_follows_108 rfl (lv_at hl 1 rfl) ?_
                refine lv_aload_n hx hb dX10_follows_109 rfl (lv_at hl 0 rfl) ?_
                refine ti_getE (ci := 10) (v := .ref v16) hx hb hts inlX10 hown hK hm50 rfl (by decide) (hts _ kw_151) (fun _ h9 => h9) dX10_follows_110 ?_
                refine lv_iload_n hx hb dX10_follows_113 rfl (lv_at hl 2 rfl) ?_
                refine ti_ialdD hx hb (aT0 hK) hT hv16 rfl hx2_12p (by decide) (fun j => ⟨_, _, rfl⟩) dX10_follows_114 (fun v114 hz114 _ => ?_)
                have s114 : v114.toInt = (ν (6 + x2.toNatClampNeg) : Int) - 1 := many_e hz114
                have hv114 : iv v114 (-1) 60 := many_iv hνb s114 hx2_12p (by decide)
                have hq114_109 : iv v114 0 60 := by have b0a := (hv20_22l).1; have b0b := (hv20_22l).2; have b1a := (hv114).1; have b1b := (hv114).2; exact ⟨by omega, by omega⟩
                have hq114_110 : iv v114 1 30 := by have b0a := (hv30_39p).1; have b0b := (hv30_39p).2; have b1a := (hq114_109).1; have b1b := (hq114_109).2; exact ⟨by omega, by omega⟩
                refine ti_calli (va_runV (As := [.int x1, .int v114]) (rest := []) ⟨hx, hb, hml, hown, hts⟩ (t_X10_goodBy l hT ha0 (iv_w hx1_5p (by decide)) (iv_w hq114_110 (by decide)) hν3 hν5 hU) (cwV 2 hts (good_V kw_1426 kw_1427 kw_1428 kw_5 kw_1429) rfl rfl rfl (by decide +kernel) ⟨by rw [hR]; decide, by rw [hR]; decide⟩) (ti_preV hK hT ha0 rfl rfl) rfl rfl hl.1 rfl (lv_room (Nat.le_of_ble_eq_true rfl)) dX10_follows_115 ⟨Nat.zero_le _, Nat.zero_le _⟩) hS (pW_sub rfl) (fun v115 H locs hB hS _ hk115 => ?_)
                have hT := hB
                exact ret _ _ _ _ _ dX10_follows_118 (hT) hS
              · skip
                have f55 := i_nle c55
                have hj48_L3_55l : iv j48_L3 0 29 := iv_ltl hj48_L3 hq54_108 (Int32.not_le.mp c55) (by decide)
                refine lv_aload_n hx hb dX10_follows_58 rfl (lv_at hl 0 rfl) ?_
                refine ti_getr hx hb hts inlX10 hown hK hT ha0 rfl rfl rfl 36 (by decide) (hts _ kw_153) (fun _ h9 => h9) rfl dX10_follows_59 (fun v59 hv59 hm59 => ?_)
                refine lv_bipush (v := 60) hx hb dX10_follows_62 (by decide) ?_
                refine lv_iload_n hx hb dX10_follows_64 rfl (lv_at hl 2 rfl) ?_
                refine lv_imul hx hb dX10_follows_65 ?_
                refine lv_topi (fun v65 e65 => ?_)
                have hv65 : iv v65 0 180 := by rw [e65]; exact iv_mul (iv_c (x := (60 : Int32)) (k := 60) (by decide)) hx2_12p (by decide)
                have kl60 : (60 : Int32).toInt = 60 := by decide
                have s65 : v65.toInt = (60 : Int32).toInt * x2.toInt := by rw [e65]; exact iv_mulE (iv_c (x := (60 : Int32)) (k := 60) (by decide)) hx2_12p (by decide)
                have s65 : v65.toInt = 60 * x2.toInt := by rw [s65]; simp only [show (60 : Int32).toInt = 60 from by decide]; try omega
                refine lv_iload_n hx hb dX10_follows_66 rfl (lv_at hl 3 rfl) ?_
                refine lv_iadd hx hb dX10_follows_67 ?_
                refine lv_topi (fun v67 e67 => ?_)
                have hv67 : iv v67 0 209 := by rw [e67]; exact iv_w (iv_add hv65 hj48_L3_55l (by decide)) (by decide)
                have s67 : v67.toInt = v65.toInt + j48_L3.toInt := by rw [e67]; exact iv_addE hv65 hj48_L3_55l (by decide)
                refine ti_lald hx hb (aT3 hK) hT hv59 rfl hv67 (by decide) (fun _ _ _ => rfl) dX10_follows_68 (fun v68 hm68 => ?_)
                refine lv_lconst (v := 0) hx hb dX10_follows_69 (by decide) ?_
                have kj0 : (0 : Int64).toInt = 0 := by decide
                refine lv_ldc2 (v := 5) hx hb hown (hts _ kw_1136) dX10_follows_70 ?_
                have kj5 : (5 : Int64).toInt = 5 := by decide
                refine ti_calli (va_runS (As := [.long v68, .long (0 : Int64), .long (5 : Int64)]) (rest := []) ⟨hx, hb, hml, hown, hts⟩ (t_X10_in l hT (jv_top v68) (jv_w (jv_c (x := (0 : Int64)) (k := 0) (by decide)) (by decide)) (jv_w (jv_c (x := (5 : Int64)) (k := 5) (by decide)) (by decide))) (cwS 3 hts (good_S kw_181 kw_182 kw_5 kw_183) rfl rfl rfl (by decide +kernel) ⟨by rw [hR]; decide, by rw [hR]; decide⟩) (ti_preS hK) rfl rfl hl.1 rfl (lv_room (Nat.le_of_ble_eq_true rfl)) dX10_follows_73 ⟨Nat.zero_le _, Nat.zero_le _⟩) hS (pW_sub rfl) (fun v73 H1 locs hB hS _ hk73 => ?_)
                obtain ⟨hH, hv73, hp73⟩ := hB
                rw [hH] at hS ⊢
                refine lv_if_ne (tgt := 83) hx hb dX10_follows_76 (by decide) (fun c76 => ?_) (fun c76 => ?_)
                · skip
                  have f76 := i_ne c76
                  have hv73_76l : iv v73 1 1 := iv_nel hv73 (iv_c (x := (0 : Int32)) (k := 0) (by decide)) c76 (by decide)
                  have hv68_76p : jv v68 0 5 := by have b0a := ((jv_top v68)).1; have b0b := ((jv_top v68)).2; have b1a := ((jv_c (x := (0 : Int64)) (k := 0) (by decide))).1; have b1b := ((jv_c (x := (0 : Int64)) (k := 0) (by decide))).2; have b2a := ((jv_c (x := (5 : Int64)) (k := 5) (by decide))).1; have b2b := ((jv_c (x := (5 : Int64)) (k := 5) (by decide))).2; exact ⟨by omega, by omega⟩
                  refine lv_aload_n hx hb dX10_follows_83 rfl (lv_at hl 0 rfl) ?_
                  refine ti_getr hx hb hts inlX10 hown hK hT ha0 rfl rfl rfl 31 (by decide) (hts _ kw_148) (fun _ h9 => h9) rfl dX10_follows_84 (fun v84 hv84 hm84 => ?_)
                  refine lv_iload_n hx hb dX10_follows_87 rfl (lv_at hl 3 rfl) ?_
                  refine lv_aload_n hx hb dX10_follows_88 rfl (lv_at hl 0 rfl) ?_
                  refine ti_getE (ci := 10) (v := .ref v59) hx hb hts inlX10 hown hK hm59 rfl (by decide) (hts _ kw_153) (fun _ h9 => h9) dX10_follows_89 ?_
                  refine lv_bipush (v := 60) hx hb dX10_follows_92 (by decide) ?_
                  refine lv_iload_n hx hb dX10_follows_94 rfl (lv_at hl 2 rfl) ?_
                  refine lv_imul hx hb dX10_follows_95 ?_
                  refine lv_topi (fun v95 e95 => ?_)
                  have hv95 : iv v95 0 180 := by rw [e95]; exact iv_mul (iv_c (x := (60 : Int32)) (k := 60) (by decide)) hx2_12p (by decide)
                  have s95 : v95.toInt = (60 : Int32).toInt * x2.toInt := by rw [e95]; exact iv_mulE (iv_c (x := (60 : Int32)) (k := 60) (by decide)) hx2_12p (by decide)
                  have s95 : v95.toInt = 60 * x2.toInt := by rw [s95]; simp only [show (60 : Int32).toInt = 60 from by decide]; try omega
                  refine lv_iload_n hx hb dX10_follows_96 rfl (lv_at hl 3 rfl) ?_
                  refine lv_iadd hx hb dX10_follows_97 ?_
                  refine lv_topi (fun v97 e97 => ?_)
                  have hv97 : iv v97 0 209 := by rw [e97]; exact iv_w (iv_add hv95 hj48_L3_55l (by decide)) (by decide)
                  have s97 : v97.toInt = v95.toInt + j48_L3.toInt := by rw [e97]; exact iv_addE hv95 hj48_L3_55l (by decide)
                  refine ti_laldE (v := .long v68) hx hb (aT3 hK) hT hv59 rfl hv97 (by decide) (by rw [show v97 = v67 from Int32.toInt_inj.mp (by have b0a := (hv97).1; have b0b := (hv97).2; have b1a := (hv67).1; have b1b := (hv67).2; omega)]; exact hm68) dX10_follows_98 ?_
                  refine lv_l2i hx hb dX10_follows_99 rfl ?_
                  refine lv_topi (fun v99 e99 => ?_)
                  have s99 : v99.toInt = v68.toInt := by rw [e99]; exact jv_l2i hv68_76p (by decide)
                  have hv99 : iv v99 0 5 := by have b0a := (hv68_76p).1; have b0b := (hv68_76p).2; exact ⟨by omega, by omega⟩
                  refine ti_iast hx hb (aT0 hK) hT hS hv84 rfl rfl hj48_L3_55l (by decide) (fun _ _ _ => ⟨_, _, rfl, by decide, by decide⟩) hv99 (fun _ _ => trivial) dX10_follows_100 (fun H locs hT hS oq100 he100 hk100 => ?_)
                  obtain ⟨v101, e101⟩ : ∃ y : Int32, y = j48_L3 + 1 := ⟨_, rfl⟩
                  have hv101 : iv v101 1 30 := by rw [e101]; exact iv_w (iv_add hj48_L3_55l (iv_c (x := (1 : Int32)) (k := 1) (by decide)) (by decide)) (by decide)
                  have s101 : v101.toInt = j48_L3.toInt + 1 := by rw [e101, iv_addE hj48_L3_55l (iv_c (x := (1 : Int32)) (k := 1) (by decide)) (by decide)]; rfl
                  refine lv_iinc (v := v101) (lv' := [(3, .int v101), (0, .ref a0), (1, .int x1), (2, .int x2)]) hx hb dX10_follows_101 hl (k := 3) rfl (by rw [e101]; rfl) (by decide) rfl (fun ls hl => ?_)
                  refine lv_goto (tgt := 48) hx hb dX10_follows_104 (by decide) ?_
                  exact ih48 v101 _ _ _ (ms_up hms48 (by have := s101; omega) (iv_w (c := 1) (d := 30) hv101 (by decide)).2) (iv_w hv101 (by decide)) hT hS (lv_sub hl [1, 2, 3, 0] rfl)
                · skip
                  have f76 := i_eq c76
                  have hv73_76l : iv v73 0 0 := iv_eql hv73 (iv_c (x := (0 : Int32)) (k := 0) (by decide)) c76 (by decide)
                  refine lv_ldcw (v := (-2000000000)) hx hb hown (hts _ kw_960) dX10_follows_79 ?_
                  exact ret _ _ _ _ _ dX10_follows_82 (hT) hS
          refine lv_istore_n (lv' := [(3, .int (0 : Int32)), (0, .ref a0), (1, .int x1), (2, .int x2)]) hx hb dX10_follows_47 rfl hl (by decide) rfl (fun ls hl => ?_)
          exact J48 _ (0 : Int32) _ _ _ (Nat.lt_succ_self _) (iv_w (iv_c (x := (0 : Int32)) (k := 0) (by decide)) (by decide)) hT hS (lv_sub hl [1, 2, 3, 0] rfl)
        · skip
          have f39 := i_eq c39
          have hv36_39l : iv v36 0 0 := iv_eql hv36 (iv_c (x := (0 : Int32)) (k := 0) (by decide)) c39 (by decide)
          exact J42  _ _ _   hT hS (lv_sub hl [0, 1, 2] rfl)
set_option maxHeartbeats 4000000 in
set_option maxRecDepth 100000 in
theorem t_X10_plan (l : Launch) {D : va_G} {c0 : Nat → ClassId} {Y : Nat → Option Nat} {ν : Nat → Nat} {H : Heap} (hT : TI D vwCl (tysOf c0) (RTg ν) Y H) {a0 : Nat} (ha0 : Y a0 = some 10) {x1 : Int32} (hx1 : iv x1 (-2147483648) 2147483647) {x2 : Int32} (hx2 : iv x2 (-2147483648) 2147483647) {x3 : Int32} (hx3 : iv x3 (-2147483648) 2147483647) (hν3 : ν 3 = 0) (hν5 : ν 5 = 0) (hU : uq Y) : Met l yX10_plan (wz yX10_plan cX10_plan 10 (some .int)) { frames := 10, cells := 0, slots := 0, locals := 291 } (TP D vwCl (tysOf c0) H [.ref a0, .int x1, .int x2, .int x3]) (TQi (fun x H' => TI D vwCl (tysOf c0) (RTg ν) Y H') Y [10, 29, 30, 41, 42, 43, 44]) 0 0 (pW Y [10, 29, 30, 41, 42, 43, 44]) := by
  refine Met.ofW (cc := cX10_plan) (maxL := 10) (ret := (some .int)) (by decide) rfl ?_
  intro p e s m args below meth c s₁ B hml hv
  obtain ⟨rfl, rfl, hK⟩ := hv
  have hx := B.exec
  have hb := B.bytes
  have hr := B.returns
  have hts : ∀ w ∈ wq, w.before _ s = true := fun w h => atoms_spec (ws := wz yX10_plan cX10_plan 10 (some .int)) B.pre w (List.mem_cons_of_mem _ h)
  have hown : s.vm.findClass RX10 = some m.cls := findClass_of_methodNamed B.named
  have hlocks := B.notSynchronized
  obtain ⟨R, hR⟩ : ∃ R : Room, R = ({ frames := 10, cells := 0, slots := 0, locals := 291 } : Room) := ⟨_, rfl⟩
  rw [show (headSpec (wz yX10_plan cX10_plan 10 (some .int)) { frames := 10, cells := 0, slots := 0, locals := 291 }).room = R from hR.symm]
  refine ti_mi hx hb hr hlocks (fun Q ret => ?_)
  have hl := lv_entry [.ref a0, .int x1, .int x2, .int x3] (n := 10) (Nat.le_of_ble_eq_true rfl)
  rw [lg_entry_eq]
  generalize (lg_sl [.ref a0, .int x1, .int x2, .int x3] ++ List.replicate (10 - (lg_sl [.ref a0, .int x1, .int x2, .int x3]).length) Slot.unset).toArray = ls at hl ⊢
  have hl : lv_has ls 10 [(0, .ref a0), (1, .int x1), (2, .int x2), (3, .int x3)] := hl
  refine ti_gen (P := fun H => TI D vwCl (tysOf c0) (RTg ν) Y H) (Y := Y) (ws := [10, 29, 30, 41, 42, 43, 44]) hT (fun H locs hT hS => ?_)
  refine lv_aload_n hx hb dX10_plan_0 rfl (lv_at hl 0 rfl) ?_
  refine lv_iload_n hx hb dX10_plan_1 rfl (lv_at hl 1 rfl) ?_
  refine ti_calli (va_runV (As := [.int x1]) (rest := []) ⟨hx, hb, hml, hown, hts⟩ (t_X10_isPerson l hT ha0 (iv_w hx1 (by decide)) hU) (cwV 1 hts (good_V kw_486 kw_487 kw_488 kw_5 kw_489) rfl rfl rfl (by decide +kernel) ⟨by rw [hR]; decide, by rw [hR]; decide⟩) (ti_preV hK hT ha0 rfl rfl) rfl rfl hl.1 rfl (lv_room (Nat.le_of_ble_eq_true rfl)) dX10_plan_2 ⟨Nat.zero_le _, Nat.zero_le _⟩) hS (pW_sub rfl) (fun v2 H1 locs hB hS _ hk2 => ?_)
  obtain ⟨hH, hv2, hp2⟩ := hB
  rw [hH] at hS ⊢
  have J31 : ∀  (H : Heap) (locs : List Loc) (ls : Array Slot), TI D vwCl (tysOf c0) (RTg ν) Y H → va_S (pW Y [10, 29, 30, 41, 42, 43, 44]) s.heap H locs → lv_has ls 10 [(0, .ref a0), (1, .int x1), (2, .int x2), (3, .int x3)] → W p l e R s m ([.ref a0, .int x1, .int x2, .int x3] : List Value).toArray below meth c H locs 0 0 Q (F0 m 31 ls []) := by
    intro  H locs ls  hT hS hl
    refine lv_ldcw (v := (-2000000000)) hx hb hown (hts _ kw_960) dX10_plan_31 ?_
    exact ret _ _ _ _ _ dX10_plan_34 (hT) hS
  refine lv_if_eq (tgt := 31) hx hb dX10_plan_5 (by decide) (fun c5 => ?_) (fun c5 => ?_)
  · skip
    have kl0 : (0 : Int32).toInt = 0 := by decide
    have f5 := i_eq c5
    have hv2_5l : iv v2 0 0 := iv_eql hv2 (iv_c (x := (0 : Int32)) (k := 0) (by decide)) c5 (by decide)
    exact J31  _ _ _   hT hS (lv_sub hl [0, 1, 2, 3] rfl)
  · skip
    have kl0 : (0 : Int32).toInt = 0 := by decide
    have f5 := i_ne c5
    have hv2_5l : iv v2 1 1 := iv_nel hv2 (iv_c (x := (0 : Int32)) (k := 0) (by decide)) c5 (by decide)
    have hx1_5p : iv x1 0 7 := by have b0a := (hx1).1; have b0b := (hx1).2; exact ⟨by omega, by omega⟩
    refine lv_iload_n hx hb dX10_plan_8 rfl (lv_at hl 2 rfl) ?_
    refine lv_i2l hx hb dX10_plan_9 rfl ?_
    refine lv_topl (fun v9 e9 => ?_)
    have hv9 : jv v9 (-2147483648) 2147483647 := by rw [e9]; exact jv_i hx2
    have t9 : v9.toInt = x2.toInt := by rw [e9]; exact jv_e _
    refine lv_lconst (v := 1) hx hb dX10_plan_10 (by decide) ?_
    have kj1 : (1 : Int64).toInt = 1 := by decide
    refine lv_ldc2 (v := 3) hx hb hown (hts _ kw_485) dX10_plan_11 ?_
    have kj3 : (3 : Int64).toInt = 3 := by decide
    refine ti_calli (va_runS (As := [.long v9, .long (1 : Int64), .long (3 : Int64)]) (rest := []) ⟨hx, hb, hml, hown, hts⟩ (t_X10_in l hT (jv_w hv9 (by decide)) (jv_w (jv_c (x := (1 : Int64)) (k := 1) (by decide)) (by decide)) (jv_w (jv_c (x := (3 : Int64)) (k := 3) (by decide)) (by decide))) (cwS 3 hts (good_S kw_181 kw_182 kw_5 kw_183) rfl rfl rfl (by decide +kernel) ⟨by rw [hR]; decide, by rw [hR]; decide⟩) (ti_preS hK) rfl rfl hl.1 rfl (lv_room (Nat.le_of_ble_eq_true rfl)) dX10_plan_14 ⟨Nat.zero_le _, Nat.zero_le _⟩) hS (pW_sub rfl) (fun v14 H1 locs hB hS _ hk14 => ?_)
    obtain ⟨hH, hv14, hp14⟩ := hB
    rw [hH] at hS ⊢
    refine lv_if_eq (tgt := 31) hx hb dX10_plan_17 (by decide) (fun c17 => ?_) (fun c17 => ?_)
    · skip
      have f17 := i_eq c17
      have hv14_17l : iv v14 0 0 := iv_eql hv14 (iv_c (x := (0 : Int32)) (k := 0) (by decide)) c17 (by decide)
      exact J31  _ _ _   hT hS (lv_sub hl [0, 1, 2, 3] rfl)
    · skip
      have f17 := i_ne c17
      have hv14_17l : iv v14 1 1 := iv_nel hv14 (iv_c (x := (0 : Int32)) (k := 0) (by decide)) c17 (by decide)
      have hv9_17p : jv v9 1 3 := by have b0a := (hv9).1; have b0b := (hv9).2; have b1a := ((jv_c (x := (1 : Int64)) (k := 1) (by decide))).1; have b1b := ((jv_c (x := (1 : Int64)) (k := 1) (by decide))).2; have b2a := ((jv_c (x := (3 : Int64)) (k := 3) (by decide))).1; have b2b := ((jv_c (x := (3 : Int64)) (k := 3) (by decide))).2; exact ⟨by omega, by omega⟩
      have hx2_17p : iv x2 1 3 := by have := t9; have b0a := (hv9_17p).1; have b0b := (hv9_17p).2; have b1a := (hx2).1; have b1b := (hx2).2; exact ⟨by omega, by omega⟩
      refine lv_iload_n hx hb dX10_plan_20 rfl (lv_at hl 3 rfl) ?_
      refine lv_i2l hx hb dX10_plan_21 rfl ?_
      refine lv_topl (fun v21 e21 => ?_)
      have hv21 : jv v21 (-2147483648) 2147483647 := by rw [e21]; exact jv_i hx3
      have t21 : v21.toInt = x3.toInt := by rw [e21]; exact jv_e _
      refine lv_lconst (v := 0) hx hb dX10_plan_22 (by decide) ?_
      have kj0 : (0 : Int64).toInt = 0 := by decide
      refine lv_iload_n hx hb dX10_plan_23 rfl (lv_at hl 2 rfl) ?_
      refine lv_i2l hx hb dX10_plan_24 rfl ?_
      refine lv_topl (fun v24 e24 => ?_)
      have hv24 : jv v24 1 3 := by rw [e24]; exact jv_i hx2_17p
      have t24 : v24.toInt = x2.toInt := by rw [e24]; exact jv_e _
      refine ti_calli (va_runS (As := [.long v21, .long (0 : Int64), .long v24]) (rest := []) ⟨hx, hb, hml, hown, hts⟩ (t_X10_in l hT (jv_w hv21 (by decide)) (jv_w (jv_c (x := (0 : Int64)) (k := 0) (by decide)) (by decide)) (jv_w hv24 (by decide))) (cwS 3 hts (good_S kw_181 kw_182 kw_5 kw_183) rfl rfl rfl (by decide +kernel) ⟨by rw [hR]; decide, by rw [hR]; decide⟩) (ti_preS hK) rfl rfl hl.1 rfl (lv_room (Nat.le_of_ble_eq_true rfl)) dX10_plan_25 ⟨Nat.zero_le _, Nat.zero_le _⟩) hS (pW_sub rfl) (fun v25 H1 locs hB hS _ hk25 => ?_)
      obtain ⟨hH, hv25, hp25⟩ := hB
      rw [hH] at hS ⊢
      refine lv_if_ne (tgt := 35) hx hb dX10_plan_28 (by decide) (fun c28 => ?_) (fun c28 => ?_)
      · skip
        have f28 := i_ne c28
        have hv25_28l : iv v25 1 1 := iv_nel hv25 (iv_c (x := (0 : Int32)) (k := 0) (by decide)) c28 (by decide)
        have hv21_28p : jv v21 0 3 := by have b0a := (hv21).1; have b0b := (hv21).2; have b1a := ((jv_c (x := (0 : Int64)) (k := 0) (by decide))).1; have b1b := ((jv_c (x := (0 : Int64)) (k := 0) (by decide))).2; have b2a := (hv24).1; have b2b := (hv24).2; exact ⟨by omega, by omega⟩
        have hx3_28p : iv x3 0 3 := by have := t21; have b0a := (hv21_28p).1; have b0b := (hv21_28p).2; have b1a := (hx3).1; have b1b := (hx3).2; exact ⟨by omega, by omega⟩
        refine lv_iconst (v := 1) hx hb dX10_plan_35 (by decide) ?_
        refine lv_istore (lv' := [(4, .int (1 : Int32)), (0, .ref a0), (1, .int x1), (2, .int x2), (3, .int x3)]) hx hb dX10_plan_36 hl (by decide) rfl (fun ls hl => ?_)
        refine lv_iconst (v := 0) hx hb dX10_plan_38 (by decide) ?_
        have J41 : ∀ (n : Nat) (j41_L4 : Int32) (j41_L5 : Int32) (H : Heap) (locs : List Loc) (ls : Array Slot), (3 - j41_L5.toInt).toNat < n → iv j41_L4 (-2147483648) 2147483647 → iv j41_L5 0 3 → TI D vwCl (tysOf c0) (RTg ν) Y H → va_S (pW Y [10, 29, 30, 41, 42, 43, 44]) s.heap H locs → lv_has ls 10 [(0, .ref a0), (1, .int x1), (2, .int x2), (3, .int x3), (4, .int j41_L4), (5, .int j41_L5)] → W p l e R s m ([.ref a0, .int x1, .int x2, .int x3] : List Value).toArray below meth c H locs 0 0 Q (F0 m 41 ls []) := by
          intro n
          induction n with
          | zero => intro j41_L4 j41_L5 H locs ls hms; exact absurd hms (Nat.not_lt_zero _)
          | succ n ih41 =>
            intro j41_L4 j41_L5 H locs ls hms41 hj41_L4 hj41_L5 hT hS hl
            refine lv_iload hx hb dX10_plan_41 (lv_at hl 5 rfl) ?_
            refine lv_iload_n hx hb dX10_plan_43 rfl (lv_at hl 2 rfl) ?_
            refine lv_icmp_ge (tgt := 60) hx hb dX10_plan_44 (by decide) (fun c44 => ?_) (fun c44 => ?_)
            · skip
              have f44 := i_le c44
              have hj41_L5_44r : iv j41_L5 1 3 := iv_ler hx2_17p hj41_L5 c44 (by decide)
              refine lv_iconst (v := (-1)) hx hb dX10_plan_60 (by decide) ?_
              refine lv_istore (lv' := [(5, .int (-1 : Int32)), (0, .ref a0), (1, .int x1), (2, .int x2), (3, .int x3), (4, .int j41_L4)]) hx hb dX10_plan_61 hl (by decide) rfl (fun ls hl => ?_)
              refine lv_iconst (v := 0) hx hb dX10_plan_63 (by decide) ?_
              refine lv_istore (lv' := [(6, .int (0 : Int32)), (5, .int (-1 : Int32)), (0, .ref a0), (1, .int x1), (2, .int x2), (3, .int x3), (4, .int j41_L4)]) hx hb dX10_plan_64 hl (by decide) rfl (fun ls hl => ?_)
              refine lv_iconst (v := 0) hx hb dX10_plan_66 (by decide) ?_
              have J69 : ∀ (n : Nat) (j69_L5 : Int32) (j69_L6 : Int32) (j69_L7 : Int32) (H : Heap) (locs : List Loc) (ls : Array Slot), (2147483647 - j69_L7.toInt).toNat < n → iv j69_L5 (-1) 2147483647 → iv j69_L6 (-2147483648) 2147483647 → iv j69_L7 0 2147483647 → TI D vwCl (tysOf c0) (RTg ν) Y H → va_S (pW Y [10, 29, 30, 41, 42, 43, 44]) s.heap H locs → lv_has ls 10 [(0, .ref a0), (1, .int x1), (2, .int x2), (3, .int x3), (4, .int j41_L4), (5, .int j69_L5), (6, .int j69_L6), (7, .int j69_L7)] → W p l e R s m ([.ref a0, .int x1, .int x2, .int x3] : List Value).toArray below meth c H locs 0 0 Q (F0 m 69 ls []) := by
                intro n
                induction n with
                | zero => intro j69_L5 j69_L6 j69_L7 H locs ls hms; exact absurd hms (Nat.not_lt_zero _)
                | succ n ih69 =>
                  intro j69_L5 j69_L6 j69_L7 H locs ls hms69 hj69_L5 hj69_L6 hj69_L7 hT hS hl
                  refine lv_iload hx hb dX10_plan_69 (lv_at hl 7 rfl) ?_
                  refine lv_iload hx hb dX10_plan_71 (lv_at hl 4 rfl) ?_
                  refine lv_icmp_ge (tgt := 153) hx hb dX10_plan_73 (by decide) (fun c73 => ?_) (fun c73 => ?_)
                  · skip
                    have f73 := i_le c73
                    refine lv_iload_n hx hb dX10_plan_153 rfl (lv_at hl 3 rfl) ?_
                    refine lv_if_ne (tgt := 160) hx hb dX10_plan_154 (by decide) (fun c154 => ?_) (fun c154 => ?_)
                    · skip
                      have f154 := i_ne c154
                      have hx3_154l : iv x3 1 3 := iv_nel hx3_28p (iv_c (x := (0 : Int32)) (k := 0) (by decide)) c154 (by decide)
                      refine lv_iload_n hx hb dX10_plan_160 rfl (lv_at hl 2 rfl) ?_
                      have J163 : ∀ (n : Nat) (j163_L5 : Int32) (j163_L7 : Int32) (H : Heap) (locs : List Loc) (ls : Array Slot), (j163_L7.toInt - 1).toNat < n → iv j163_L5 (-1) 2147483647 → iv j163_L7 1 3 → TI D vwCl (tysOf c0) (RTg ν) Y H → va_S (pW Y [10, 29, 30, 41, 42, 43, 44]) s.heap H locs → lv_has ls 10 [(0, .ref a0), (1, .int x1), (2, .int x2), (3, .int x3), (4, .int j41_L4), (5, .int j163_L5), (6, .int j69_L6), (7, .int j163_L7)] → W p l e R s m ([.ref a0, .int x1, .int x2, .int x3] : List Value).toArray below meth c H locs 0 0 Q (F0 m 163 ls []) := by
                        intro n
                        induction n with
                        | zero => intro j163_L5 j163_L7 H locs ls hms; exact absurd hms (Nat.not_lt_zero _)
                        | succ n ih163 =>
                          intro j163_L5 j163_L7 H locs ls hms163 hj163_L5 hj163_L7 hT hS hl
                          refine lv_iload hx hb dX10_plan_163 (lv_at hl 7 rfl) ?_
                          refine lv_iload_n hx hb dX10_plan_165 rfl (lv_at hl 3 rfl) ?_
                          refine lv_icmp_le (tgt := 182) hx hb dX10_plan_166 (by decide) (fun c166 => ?_) (fun c166 => ?_)
                          · skip
                            have f166 := i_le c166
                            refine lv_iload hx hb dX10_plan_182 (lv_at hl 5 rfl) ?_
                            refine lv_bipush (v := 6) hx hb dX10_plan_184 (by decide) ?_
                            refine lv_irem hx hb dX10_plan_186 (iv_ne0 (iv_c (x := (6 : Int32)) (k := 6) (by decide)) (by decide)) ?_
                            refine lv_topi (fun v186 e186 => ?_)
                            have hv186 : iv v186 (-5) 5 := by rw [e186]; exact iv_rem hj163_L5 (iv_c (x := (6 : Int32)) (k := 6) (by decide)) (by decide)
                            exact ret _ _ _ _ _ dX10_plan_187 (hT) hS
                          · skip
                            have f166 := i_nle c166
                            have hx3_166l : iv x3 1 2 := iv_ltl hx3_154l hj163_L7 (Int32.not_le.mp c166) (by decide)
                            have hj163_L7_166r : iv j163_L7 2 3 := iv_ltr hx3_166l hj163_L7 (Int32.not_le.mp c166) (by decide)
                            refine lv_iload hx hb dX10_plan_169 (lv_at hl 5 rfl) ?_
                            refine lv_bipush (v := 6) hx hb dX10_plan_171 (by decide) ?_
                            refine lv_idiv hx hb dX10_plan_173 (iv_ne0 (iv_c (x := (6 : Int32)) (k := 6) (by decide)) (by decide)) ?_
                            refine lv_topi (fun v173 e173 => ?_)
                            have hv173 : iv v173 (-1) 2147483647 := by rw [e173]; exact iv_div hj163_L5 (iv_c (x := (6 : Int32)) (k := 6) (by decide)) (by decide)
                            refine lv_istore (lv' := [(5, .int v173), (0, .ref a0), (1, .int x1), (2, .int x2), (3, .int x3), (4, .int j41_L4), (6, .int j69_L6), (7, .int j163_L7)]) hx hb dX10_plan_174 hl (by decide) rfl (fun ls hl => ?_)
                            obtain ⟨v176, e176⟩ : ∃ y : Int32, y = j163_L7 + (-1) := ⟨_, rfl⟩
                            have hv176 : iv v176 1 2 := by rw [e176]; exact iv_w (iv_add hj163_L7_166r (iv_c (x := (-1 : Int32)) (k := (-1)) (by decide)) (by decide)) (by decide)
                            have s176 : v176.toInt = j163_L7.toInt + (-1) := by rw [e176, iv_addE hj163_L7_166r (iv_c (x := (-1 : Int32)) (k := (-1)) (by decide)) (by decide)]; rfl
                            refine lv_iinc (v := v176) (lv' := [(7, .int v176), (5, .int v173), (0, .ref a0), (1, .int x1), (2, .int x2), (3, .int x3), (4, .int j41_L4), (6, .int j69_L6)]) hx hb dX10_plan_176 hl (k := 7) rfl (by rw [e176]; rfl) (by decide) rfl (fun ls hl => ?_)
                            refine lv_goto (tgt := 163) hx hb dX10_plan_179 (by decide) ?_
                            exact ih163 v173 v176 _ _ _ (ms_dn hms163 (by have := s176; omega) (iv_w (c := 1) (d := 2) hv176 (by decide)).1) (iv_w hv173 (by decide)) (iv_w hv176 (by decide)) hT hS (lv_sub hl [2, 3, 4, 5, 6, 1, 7, 0] rfl)
                      refine lv_istore (lv' := [(7, .int x2), (0, .ref a0), (1, .int x1), (2, .int x2), (3, .int x3), (4, .int j41_L4), (5, .int j69_L5), (6, .int j69_L6)]) hx hb dX10_plan_161 hl (by decide) rfl (fun ls hl => ?_)
                      exact J163 _ j69_L5 x2 _ _ _ (Nat.lt_succ_self _) (iv_w hj69_L5 (by decide)) (iv_w hx2_17p (by decide)) hT hS (lv_sub hl [1, 2, 3, 4, 5, 6, 7, 0] rfl)
                    · skip
                      have f154 := i_eq c154
                      have hx3_154l : iv x3 0 0 := iv_eql hx3_28p (iv_c (x := (0 : Int32)) (k := 0) (by decide)) c154 (by decide)
                      refine lv_iload hx hb dX10_plan_157 (lv_at hl 6 rfl) ?_
                      exact ret _ _ _ _ _ dX10_plan_159 (hT) hS
                  · skip
                    have f73 := i_nle c73
                    have hj69_L7_73l : iv j69_L7 0 2147483646 := iv_ltl hj69_L7 hj41_L4 (Int32.not_le.mp c73) (by decide)
                    have hj41_L4_73r : iv j41_L4 1 2147483647 := iv_ltr hj69_L7_73l hj41_L4 (Int32.not_le.mp c73) (by decide)
                    refine lv_iload hx hb dX10_plan_76 (lv_at hl 7 rfl) ?_
                    refine lv_istore (lv' := [(8, .int j69_L7), (0, .ref a0), (1, .int x1), (2, .int x2), (3, .int x3), (4, .int j41_L4), (5, .int j69_L5), (6, .int j69_L6), (7, .int j69_L7)]) hx hb dX10_plan_78 hl (by decide) rfl (fun ls hl => ?_)
                    refine lv_iload_n hx hb dX10_plan_80 rfl (lv_at hl 3 rfl) ?_
                    refine lv_iconst (v := 1) hx hb dX10_plan_81 (by decide) ?_
                    refine lv_isub hx hb dX10_plan_82 ?_
                    refine lv_topi (fun v82 e82 => ?_)
                    have hv82 : iv v82 0 2 := by rw [e82]; exact iv_w (iv_sub hx2_17p (iv_c (x := (1 : Int32)) (k := 1) (by decide)) (by decide)) (by decide)
                    have s82 : v82.toInt = x2.toInt - (1 : Int32).toInt := by rw [e82]; exact iv_subE hx2_17p (iv_c (x := (1 : Int32)) (k := 1) (by decide)) (by decide)
                    have kl1 : (1 : Int32).toInt = 1 := by decide
                    have J85 : ∀ (n : Nat) (j85_L8 : Int32) (j85_L9 : Int32) (H : Heap) (locs : List Loc) (ls : Array Slot), (j85_L9.toInt - (-1)).toNat < n → iv j85_L8 0 2147483646 → iv j85_L9 (-1) 2 → TI D vwCl (tysOf c0) (RTg ν) Y H → va_S (pW Y [10, 29, 30, 41, 42, 43, 44]) s.heap H locs → lv_has ls 10 [(0, .ref a0), (1, .int x1), (2, .int x2), (3, .int x3), (4, .int j41_L4), (5, .int j69_L5), (6, .int j69_L6), (7, .int j69_L7), (8, .int j85_L8), (9, .int j85_L9)] → W p l e R s m ([.ref a0, .int x1, .int x2, .int x3] : List Value).toArray below meth c H locs 0 0 Q (F0 m 85 ls []) := by
                      intro n
                      induction n with
                      | zero => intro j85_L8 j85_L9 H locs ls hms; exact absurd hms (Nat.not_lt_zero _)
                      | succ n ih85 =>
                        intro j85_L8 j85_L9 H locs ls hms85 hj85_L8 hj85_L9 hT hS hl
                        refine lv_iload hx hb dX10_plan_85 (lv_at hl 9 rfl) ?_
                        refine lv_if_lt (tgt := 115) hx hb dX10_plan_87 (by decide) (fun c87 => ?_) (fun c87 => ?_)
                        · skip
                          have f87 := i_lt c87
                          have hj85_L9_87l : iv j85_L9 (-1) (-1) := iv_ltl hj85_L9 (iv_c (x := (0 : Int32)) (k := 0) (by decide)) c87 (by decide)
                          refine lv_aload_n hx hb dX10_plan_115 rfl (lv_at hl 0 rfl) ?_
                          refine lv_iload_n hx hb dX10_plan_116 rfl (lv_at hl 1 rfl) ?_
                          refine lv_iload_n hx hb dX10_plan_117 rfl (lv_at hl 2 rfl) ?_
                          refine ti_calli (va_runV (As := [.int x1, .int x2]) (rest := []) ⟨hx, hb, hml, hown, hts⟩ (t_X10_goodBy l hT ha0 (iv_w hx1_5p (by decide)) (iv_w hx2_17p (by decide)) hν3 hν5 hU) (cwV 2 hts (good_V kw_1426 kw_1427 kw_1428 kw_5 kw_1429) rfl rfl rfl (by decide +kernel) ⟨by rw [hR]; decide, by rw [hR]; decide⟩) (ti_preV hK hT ha0 rfl rfl) rfl rfl hl.1 rfl (lv_room (Nat.le_of_ble_eq_true rfl)) dX10_plan_118 ⟨Nat.zero_le _, Nat.zero_le _⟩) hS (pW_sub rfl) (fun v118 H locs hB hS _ hk118 => ?_)
                          have hT := hB
                          refine lv_istore (lv' := [(9, .int v118), (0, .ref a0), (1, .int x1), (2, .int x2), (3, .int x3), (4, .int j41_L4), (5, .int j69_L5), (6, .int j69_L6), (7, .int j69_L7), (8, .int j85_L8)]) hx hb dX10_plan_121 hl (by decide) rfl (fun ls hl => ?_)
                          refine lv_iload hx hb dX10_plan_123 (lv_at hl 6 rfl) ?_
                          refine lv_iconst (v := (-1)) hx hb dX10_plan_125 (by decide) ?_
                          have J147 : ∀ (j147_L5 : Int32) (j147_L6 : Int32) (H : Heap) (locs : List Loc) (ls : Array Slot), iv j147_L5 0 2147483647 → iv j147_L6 (-2147483648) 2147483647 → TI D vwCl (tysOf c0) (RTg ν) Y H → va_S (pW Y [10, 29, 30, 41, 42, 43, 44]) s.heap H locs → lv_has ls 10 [(0, .ref a0), (1, .int x1), (2, .int x2), (3, .int x3), (4, .int j41_L4), (5, .int j147_L5), (6, .int j147_L6), (7, .int j69_L7), (8, .int j85_L8), (9, .int v118)] → W p l e R s m ([.ref a0, .int x1, .int x2, .int x3] : List Value).toArray below meth c H locs 0 0 Q (F0 m 147 ls []) := by
                            intro j147_L5 j147_L6 H locs ls hj147_L5 hj147_L6 hT hS hl
                            obtain ⟨v147, e147⟩ : ∃ y : Int32, y = j69_L7 + 1 := ⟨_, rfl⟩
                            have hv147 : iv v147 1 2147483647 := by rw [e147]; exact iv_w (iv_add hj69_L7_73l (iv_c (x := (1 : Int32)) (k := 1) (by decide)) (by decide)) (by decide)
                            have s147 : v147.toInt = j69_L7.toInt + 1 := by rw [e147, iv_addE hj69_L7_73l (iv_c (x := (1 : Int32)) (k := 1) (by decide)) (by decide)]; rfl
                            refine lv_iinc (v := v147) (lv' := [(7, .int v147), (0, .ref a0), (1, .int x1), (2, .int x2), (3, .int x3), (4, .int j41_L4), (5, .int j147_L5), (6, .int j147_L6), (8, .int j85_L8), (9, .int v118)]) hx hb dX10_plan_147 hl (k := 7) rfl (by rw [e147]; rfl) (by decide) rfl (fun ls hl => ?_)
                            refine lv_goto (tgt := 69) hx hb dX10_plan_150 (by decide) ?_
                            exact ih69 j147_L5 j147_L6 v147 _ _ _ (ms_up hms69 (by have := s147; omega) (iv_w (c := 1) (d := 2147483647) hv147 (by decide)).2) (iv_w hj147_L5 (by decide)) (iv_w hj147_L6 (by decide)) (iv_w hv147 (by decide)) hT hS (lv_sub hl [1, 2, 3, 4, 5, 6, 7, 0] rfl)
                          have J139 : ∀  (H : Heap) (locs : List Loc) (ls : Array Slot), TI D vwCl (tysOf c0) (RTg ν) Y H → va_S (pW Y [10, 29, 30, 41, 42, 43, 44]) s.heap H locs → lv_has ls 10 [(0, .ref a0), (1, .int x1), (2, .int x2), (3, .int x3), (4, .int j41_L4), (5, .int j69_L5), (6, .int j69_L6), (7, .int j69_L7), (8, .int j85_L8), (9, .int v118)] → W p l e R s m ([.ref a0, .int x1, .int x2, .int x3] : List Value).toArray below meth c H locs 0 0 Q (F0 m 139 ls []) := by
                            intro  H locs ls  hT hS hl
                            refine lv_iload hx hb dX10_plan_139 (lv_at hl 7 rfl) ?_
                            refine lv_istore (lv' := [(5, .int j69_L7), (0, .ref a0), (1, .int x1), (2, .int x2), (3, .int x3), (4, .int j41_L4), (6, .int j69_L6), (7, .int j69_L7), (8, .int j85_L8), (9, .int v118)]) hx hb dX10_plan_141 hl (by decide) rfl (fun ls hl => ?_)
                            refine lv_iload hx hb dX10_plan_143 (lv_at hl 9 rfl) ?_
                            refine lv_istore (lv' := [(6, .int v118), (5, .int j69_L7), (0, .ref a0), (1, .int x1), (2, .int x2), (3, .int x3), (4, .int j41_L4), (7, .int j69_L7), (8, .int j85_L8), (9, .int v118)]) hx hb dX10_plan_145 hl (by decide) rfl (fun ls hl => ?_)
                            exact J147 j69_L7 v118 _ _ _  (iv_w hj69_L7_73l (by decide)) (iv_w (iv_top v118) (by decide)) hT hS (lv_sub hl [2, 3, 4, 5, 6, 1, 0, 7, 8, 9] rfl)
                          refine lv_icmp_eq (tgt := 139) hx hb dX10_plan_126 (by decide) (fun c126 => ?_) (fun c126 => ?_)
                          · skip
                            have klm1 : (-1 : Int32).toInt = (-1) := by decide
                            have f126 := i_eq c126
                            have hj69_L5_126l : iv j69_L5 (-1) (-1) := iv_eql hj69_L5 (iv_c (x := (-1 : Int32)) (k := (-1)) (by decide)) c126 (by decide)
                            exact J139  _ _ _   hT hS (lv_sub hl [1, 2, 3, 4, 5, 6, 7, 8, 9, 0] rfl)
                          · skip
                            have klm1 : (-1 : Int32).toInt = (-1) := by decide
                            have f126 := i_ne c126
                            have hj69_L5_126l : iv j69_L5 0 2147483647 := iv_nel hj69_L5 (iv_c (x := (-1 : Int32)) (k := (-1)) (by decide)) c126 (by decide)
                            refine lv_iload hx hb dX10_plan_129 (lv_at hl 0 rfl) ?_
                            refine lv_iload hx hb dX10_plan_131 (lv_at hl 7 rfl) ?_
                            refine lv_icmp_gt (tgt := 139) hx hb dX10_plan_133 (by decide) (fun c133 => ?_) (fun c133 => ?_)
                            · skip
                              have f133 := i_lt c133
                              have hj69_L6_133l : iv j69_L6 (-2147483648) 2147483646 := iv_ltl hj69_L6 (iv_top v118) c133 (by decide)
                              have hv118_133r : iv v118 (-2147483647) 2147483647 := iv_ltr hj69_L6_133l (iv_top v118) c133 (by decide)
                              exact J139  _ _ _   hT hS (lv_sub hl [1, 2, 3, 4, 5, 6, 7, 8, 9, 0] rfl)
                            · skip
                              have f133 := i_nlt c133
                              refine lv_goto (tgt := 147) hx hb dX10_plan_136 (by decide) ?_
                              exact J147 j69_L5 j69_L6 _ _ _  (iv_w hj69_L5_126l (by decide)) (iv_w hj69_L6 (by decide)) hT hS (lv_sub hl [1, 2, 3, 4, 5, 6, 7, 8, 9, 0] rfl)
                        · skip
                          have f87 := i_nlt c87
                          have hj85_L9_87r : iv j85_L9 0 2 := iv_ler (iv_c (x := (0 : Int32)) (k := 0) (by decide)) hj85_L9 (Int32.not_lt.mp c87) (by decide)
                          refine lv_aload_n hx hb dX10_plan_90 rfl (lv_at hl 0 rfl) ?_
                          refine ti_getr hx hb hts inlX10 hown hK hT ha0 rfl rfl rfl 31 (by decide) (hts _ kw_148) (fun _ h9 => h9) rfl dX10_plan_91 (fun v91 hv91 hm91 => ?_)
                          refine lv_iload hx hb dX10_plan_94 (lv_at hl 9 rfl) ?_
                          refine lv_iload hx hb dX10_plan_96 (lv_at hl 8 rfl) ?_
                          refine lv_bipush (v := 6) hx hb dX10_plan_98 (by decide) ?_
                          refine lv_irem hx hb dX10_plan_100 (iv_ne0 (iv_c (x := (6 : Int32)) (k := 6) (by decide)) (by decide)) ?_
                          refine lv_topi (fun v100 e100 => ?_)
                          have hv100 : iv v100 0 5 := by rw [e100]; exact iv_rem hj85_L8 (iv_c (x := (6 : Int32)) (k := 6) (by decide)) (by decide)
                          refine ti_iast hx hb (aT0 hK) hT hS hv91 rfl rfl hj85_L9_87r (by decide) (fun _ _ _ => ⟨_, _, rfl, by decide, by decide⟩) hv100 (fun _ _ => trivial) dX10_plan_101 (fun H locs hT hS oq101 he101 hk101 => ?_)
                          refine lv_iload hx hb dX10_plan_102 (lv_at hl 8 rfl) ?_
                          refine lv_bipush (v := 6) hx hb dX10_plan_104 (by decide) ?_
                          refine lv_idiv hx hb dX10_plan_106 (iv_ne0 (iv_c (x := (6 : Int32)) (k := 6) (by decide)) (by decide)) ?_
                          refine lv_topi (fun v106 e106 => ?_)
                          have hv106 : iv v106 0 357913941 := by rw [e106]; exact iv_w (iv_divk hj85_L8 (iv_c (x := (6 : Int32)) (k := 6) (by decide)) (by decide)) (by decide)
                          refine lv_istore (lv' := [(8, .int v106), (0, .ref a0), (1, .int x1), (2, .int x2), (3, .int x3), (4, .int j41_L4), (5, .int j69_L5), (6, .int j69_L6), (7, .int j69_L7), (9, .int j85_L9)]) hx hb dX10_plan_107 hl (by decide) rfl (fun ls hl => ?_)
                          obtain ⟨v109, e109⟩ : ∃ y : Int32, y = j85_L9 + (-1) := ⟨_, rfl⟩
                          have hv109 : iv v109 (-1) 1 := by rw [e109]; exact iv_w (iv_add hj85_L9_87r (iv_c (x := (-1 : Int32)) (k := (-1)) (by decide)) (by decide)) (by decide)
                          have s109 : v109.toInt = j85_L9.toInt + (-1) := by rw [e109, iv_addE hj85_L9_87r (iv_c (x := (-1 : Int32)) (k := (-1)) (by decide)) (by decide)]; rfl
                          refine lv_iinc (v := v109) (lv' := [(9, .int v109), (8, .int v106), (0, .ref a0), (1, .int x1), (2, .int x2), (3, .int x3), (4, .int j41_L4), (5, .int j69_L5), (6, .int j69_L6), (7, .int j69_L7)]) hx hb dX10_plan_109 hl (k := 9) rfl (by rw [e109]; rfl) (by decide) rfl (fun ls hl => ?_)
                          refine lv_goto (tgt := 85) hx hb dX10_plan_112 (by decide) ?_
                          exact ih85 v106 v109 _ _ _ (ms_dn hms85 (by have := s109; omega) (iv_w (c := (-1)) (d := 1) hv109 (by decide)).1) (iv_w hv106 (by decide)) (iv_w hv109 (by decide)) hT hS (lv_sub hl [2, 3, 4, 5, 6, 7, 8, 9, 1, 0] rfl)
                    refine lv_istore (lv' := [(9, .int v82), (8, .int j69_L7), (0, .ref a0), (1, .int x1), (2, .int x2), (3, .int x3), (4, .int j41_L4), (5, .int j69_L5), (6, .int j69_L6), (7, .int j69_L7)]) hx hb dX10_plan_83 hl (by decide) rfl (fun ls hl => ?_)
                    exact J85 _ j69_L7 v82 _ _ _ (Nat.lt_succ_self _) (iv_w hj69_L7_73l (by decide)) (iv_w hv82 (by decide)) hT hS (lv_sub hl [2, 3, 4, 5, 6, 7, 8, 9, 1, 0] rfl)
              refine lv_istore (lv' := [(7, .int (0 : Int32)), (6, .int (0 : Int32)), (5, .int (-1 : Int32)), (0, .ref a0), (1, .int x1), (2, .int x2), (3, .int x3), (4, .int j41_L4)]) hx hb dX10_plan_67 hl (by decide) rfl (fun ls hl => ?_)
              exact J69 _ (-1 : Int32) (0 : Int32) (0 : Int32) _ _ _ (Nat.lt_succ_self _) (iv_w (iv_c (x := (-1 : Int32)) (k := (-1)) (by decide)) (by decide)) (iv_w (iv_c (x := (0 : Int32)) (k := 0) (by decide)) (by decide)) (iv_w (iv_c (x := (0 : Int32)) (k := 0) (by decide)) (by decide)) hT hS (lv_sub hl [3, 4, 5, 6, 7, 2, 1, 0] rfl)
            · skip
              have f44 := i_nle c44
              have hj41_L5_44l : iv j41_L5 0 2 := iv_ltl hj41_L5 hx2_17p (Int32.not_le.mp c44) (by decide)
              refine lv_iload hx hb dX10_plan_47 (lv_at hl 4 rfl) ?_
              refine lv_bipush (v := 6) hx hb dX10_plan_49 (by decide) ?_
              refine lv_imul hx hb dX10_plan_51 ?_
              refine lv_topi (fun v51 e51 => ?_)
              have hv51 : iv v51 (-2147483648) 2147483647 := iv_top _
              refine lv_istore (lv' := [(4, .int v51), (0, .ref a0), (1, .int x1), (2, .int x2), (3, .int x3), (5, .int j41_L5)]) hx hb dX10_plan_52 hl (by decide) rfl (fun ls hl => ?_)
              obtain ⟨v54, e54⟩ : ∃ y : Int32, y = j41_L5 + 1 := ⟨_, rfl⟩
              have hv54 : iv v54 1 3 := by rw [e54]; exact iv_w (iv_add hj41_L5_44l (iv_c (x := (1 : Int32)) (k := 1) (by decide)) (by decide)) (by decide)
              have s54 : v54.toInt = j41_L5.toInt + 1 := by rw [e54, iv_addE hj41_L5_44l (iv_c (x := (1 : Int32)) (k := 1) (by decide)) (by decide)]; rfl
              refine lv_iinc (v := v54) (lv' := [(5, .int v54), (4, .int v51), (0, .ref a0), (1, .int x1), (2, .int x2), (3, .int x3)]) hx hb dX10_plan_54 hl (k := 5) rfl (by rw [e54]; rfl) (by decide) rfl (fun ls hl => ?_)
              refine lv_goto (tgt := 41) hx hb dX10_plan_57 (by decide) ?_
              exact ih41 v51 v54 _ _ _ (ms_up hms41 (by have := s54; omega) (iv_w (c := 1) (d := 3) hv54 (by decide)).2) (iv_w hv51 (by decide)) (iv_w hv54 (by decide)) hT hS (lv_sub hl [2, 3, 4, 5, 1, 0] rfl)
        refine lv_istore (lv' := [(5, .int (0 : Int32)), (4, .int (1 : Int32)), (0, .ref a0), (1, .int x1), (2, .int x2), (3, .int x3)]) hx hb dX10_plan_39 hl (by decide) rfl (fun ls hl => ?_)
        exact J41 _ (1 : Int32) (0 : Int32) _ _ _ (Nat.lt_succ_self _) (iv_w (iv_c (x := (1 : Int32)) (k := 1) (by decide)) (by decide)) (iv_w (iv_c (x := (0 : Int32)) (k := 0) (by decide)) (by decide)) hT hS (lv_sub hl [2, 3, 4, 5, 1, 0] rfl)
      · skip
        have f28 := i_eq c28
        have hv25_28l : iv v25 0 0 := iv_eql hv25 (iv_c (x := (0 : Int32)) (k := 0) (by decide)) c28 (by decide)
        exact J31  _ _ _   hT hS (lv_sub hl [0, 1, 2, 3] rfl)
set_option maxHeartbeats 4000000 in
set_option maxRecDepth 100000 in
theorem t_X10_open (l : Launch) {D : va_G} {c0 : Nat → ClassId} {Y : Nat → Option Nat} {ν : Nat → Nat} {H : Heap} (hT : TI D vwCl (tysOf c0) (RTg ν) Y H) {a0 : Nat} (ha0 : Y a0 = some 10) (hU : uq Y) : Met l yX10_open (wz yX10_open cX10_open 3 (some .int)) { frames := 2, cells := 0, slots := 0, locals := 82 } (TP D vwCl (tysOf c0) H [.ref a0]) (TQi (fun x H' => TI D vwCl (tysOf c0) (RTg ν) Y H') Y [30]) 0 0 (pW Y [30]) := by
  refine Met.ofW (cc := cX10_open) (maxL := 3) (ret := (some .int)) (by decide) rfl ?_
  intro p e s m args below meth c s₁ B hml hv
  obtain ⟨rfl, rfl, hK⟩ := hv
  have hx := B.exec
  have hb := B.bytes
  have hr := B.returns
  have hts : ∀ w ∈ wq, w.before _ s = true := fun w h => atoms_spec (ws := wz yX10_open cX10_open 3 (some .int)) B.pre w (List.mem_cons_of_mem _ h)
  have hown : s.vm.findClass RX10 = some m.cls := findClass_of_methodNamed B.named
  have hlocks := B.notSynchronized
  obtain ⟨R, hR⟩ : ∃ R : Room, R = ({ frames := 2, cells := 0, slots := 0, locals := 82 } : Room) := ⟨_, rfl⟩
  rw [show (headSpec (wz yX10_open cX10_open 3 (some .int)) { frames := 2, cells := 0, slots := 0, locals := 82 }).room = R from hR.symm]
  refine ti_mi hx hb hr hlocks (fun Q ret => ?_)
  have hl := lv_entry [.ref a0] (n := 3) (Nat.le_of_ble_eq_true rfl)
  rw [lg_entry_eq]
  generalize (lg_sl [.ref a0] ++ List.replicate (3 - (lg_sl [.ref a0]).length) Slot.unset).toArray = ls at hl ⊢
  have hl : lv_has ls 3 [(0, .ref a0)] := hl
  refine ti_gen (P := fun H => TI D vwCl (tysOf c0) (RTg ν) Y H) (Y := Y) (ws := [30]) hT (fun H locs hT hS => ?_)
  refine lv_aload_n hx hb dX10_open_0 rfl (lv_at hl 0 rfl) ?_
  refine ti_calli (va_runV (As := []) (rest := []) ⟨hx, hb, hml, hown, hts⟩ (t_X10_people l hT ha0 hU) (cwV 0 hts (good_V kw_605 kw_606 kw_607 kw_5 kw_608) rfl rfl rfl (by decide +kernel) ⟨by rw [hR]; decide, by rw [hR]; decide⟩) (ti_preV hK hT ha0 rfl rfl) rfl rfl hl.1 rfl (lv_room (Nat.le_of_ble_eq_true rfl)) dX10_open_1 ⟨Nat.zero_le _, Nat.zero_le _⟩) hS (pW_sub rfl) (fun v1 H1 locs hB hS _ hk1 => ?_)
  obtain ⟨hH, hv1, hp1⟩ := hB
  rw [hH] at hS ⊢
  refine lv_if_ne (tgt := 10) hx hb dX10_open_4 (by decide) (fun c4 => ?_) (fun c4 => ?_)
  · skip
    have kl0 : (0 : Int32).toInt = 0 := by decide
    have f4 := i_ne c4
    have hv1_4l : iv v1 1 8 := iv_nel hv1 (iv_c (x := (0 : Int32)) (k := 0) (by decide)) c4 (by decide)
    refine lv_aload_n hx hb dX10_open_10 rfl (lv_at hl 0 rfl) ?_
    refine ti_getr hx hb hts inlX10 hown hK hT ha0 rfl rfl rfl 1 (by decide) (hts _ kw_130) (fun _ h9 => h9) rfl dX10_open_11 (fun v11 hv11 hm11 => ?_)
    refine lv_bipush (v := 10) hx hb dX10_open_14 (by decide) ?_
    refine ti_iald (lo := (-2147483648)) (hi := 2147483647) hx hb (aT0 hK) hT hv11 rfl (iv_c (x := (10 : Int32)) (k := 10) (by decide)) (by decide) (one_j 10 rfl rfl (by decide) (by decide)) dX10_open_16 (fun v16 hv16 hm16 => ?_)
    refine lv_aload_n hx hb dX10_open_17 rfl (lv_at hl 0 rfl) ?_
    refine ti_calli (va_runV (As := []) (rest := [.int v16]) ⟨hx, hb, hml, hown, hts⟩ (t_X10_people l hT ha0 hU) (cwV 0 hts (good_V kw_605 kw_606 kw_607 kw_5 kw_608) rfl rfl rfl (by decide +kernel) ⟨by rw [hR]; decide, by rw [hR]; decide⟩) (ti_preV hK hT ha0 rfl rfl) rfl rfl hl.1 rfl (lv_room (Nat.le_of_ble_eq_true rfl)) dX10_open_18 ⟨Nat.zero_le _, Nat.zero_le _⟩) hS (pW_sub rfl) (fun v18 H1 locs hB hS _ hk18 => ?_)
    obtain ⟨hH, hv18, hp18⟩ := hB
    rw [hH] at hS ⊢
    have e18 : v18 = v1 := wv_eq hp1 hp18 rfl
    have e18 := i_eq e18
    have hh21_17 : iv v18 1 8 := by have b0a := (hv1_4l).1; have b0b := (hv1_4l).2; have b1a := (hv16).1; have b1b := (hv16).2; have b2a := (hv18).1; have b2b := (hv18).2; exact ⟨by omega, by omega⟩
    refine lv_idiv hx hb dX10_open_21 (iv_ne0 hh21_17 (by decide)) ?_
    refine lv_topi (fun v21 e21 => ?_)
    have hv21 : iv v21 (-2147483648) 2147483647 := by rw [e21]; exact iv_div hv16 hh21_17 (by decide)
    refine lv_istore_n (lv' := [(1, .int v21), (0, .ref a0)]) hx hb dX10_open_22 rfl hl (by decide) rfl (fun ls hl => ?_)
    refine lv_aload_n hx hb dX10_open_23 rfl (lv_at hl 1 rfl) ?_
    refine ti_getE (ci := 10) (v := .ref v11) hx hb hts inlX10 hown hK hm11 rfl (by decide) (hts _ kw_130) (fun _ h9 => h9) dX10_open_24 ?_
    refine lv_bipush (v := 10) hx hb dX10_open_27 (by decide) ?_
    refine lv_dup2_11 hx hb dX10_open_29 rfl rfl ?_
    refine ti_ialdE (v := .int v16) hx hb (aT0 hK) hT hv11 rfl (iv_c (x := (10 : Int32)) (k := 10) (by decide)) (by decide) (hm16) dX10_open_30 ?_
    refine lv_iload_n hx hb dX10_open_31 rfl (lv_at hl 0 rfl) ?_
    refine lv_aload_n hx hb dX10_open_32 rfl (lv_at hl 1 rfl) ?_
    refine ti_calli (va_runV (As := []) (rest := [.int v21, .int v16, .int (10 : Int32), .ref v11]) ⟨hx, hb, hml, hown, hts⟩ (t_X10_people l hT ha0 hU) (cwV 0 hts (good_V kw_605 kw_606 kw_607 kw_5 kw_608) rfl rfl rfl (by decide +kernel) ⟨by rw [hR]; decide, by rw [hR]; decide⟩) (ti_preV hK hT ha0 rfl rfl) rfl rfl hl.1 rfl (lv_room (Nat.le_of_ble_eq_true rfl)) dX10_open_33 ⟨Nat.zero_le _, Nat.zero_le _⟩) hS (pW_sub rfl) (fun v33 H1 locs hB hS _ hk33 => ?_)
    obtain ⟨hH, hv33, hp33⟩ := hB
    rw [hH] at hS ⊢
    refine lv_imul hx hb dX10_open_36 ?_
    refine lv_topi (fun v36 e36 => ?_)
    have hv36 : iv v36 (-2147483648) 2147483647 := iv_top _
    refine lv_isub hx hb dX10_open_37 ?_
    refine lv_topi (fun v37 e37 => ?_)
    have hv37 : iv v37 (-2147483648) 2147483647 := iv_top _
    refine ti_iast hx hb (aT0 hK) hT hS hv11 rfl rfl (iv_c (x := (10 : Int32)) (k := 10) (by decide)) (by decide) (one_s 10 rfl rfl (by decide) (by decide)) hv37 (fun _ _ => trivial) dX10_open_38 (fun H locs hT hS oq38 he38 hk38 => ?_)
    refine lv_iconst (v := 0) hx hb dX10_open_39 (by decide) ?_
    have J41 : ∀ (n : Nat) (j41_L2 : Int32) (H : Heap) (locs : List Loc) (ls : Array Slot), (8 - j41_L2.toInt).toNat < n → iv j41_L2 0 8 → TI D vwCl (tysOf c0) (RTg ν) Y H → va_S (pW Y [30]) s.heap H locs → lv_has ls 3 [(0, .ref a0), (1, .int v21), (2, .int j41_L2)] → W p l e R s m ([.ref a0] : List Value).toArray below meth c H locs 0 0 Q (F0 m 41 ls []) := by
      intro n
      induction n with
      | zero => intro j41_L2 H locs ls hms; exact absurd hms (Nat.not_lt_zero _)
      | succ n ih41 =>
        intro j41_L2 H locs ls hms41 hj41_L2 hT hS hl
        refine lv_iload_n hx hb dX10_open_41 rfl (lv_at hl 2 rfl) ?_
        refine lv_aload_n hx hb dX10_open_42 rfl (lv_at hl 0 rfl) ?_
        refine ti_calli (va_runV (As := []) (rest := [.int j41_L2]) ⟨hx, hb, hml, hown, hts⟩ (t_X10_people l hT ha0 hU) (cwV 0 hts (good_V kw_605 kw_606 kw_607 kw_5 kw_608) rfl rfl rfl (by decide +kernel) ⟨by rw [hR]; decide, by rw [hR]; decide⟩) (ti_preV hK hT ha0 rfl rfl) rfl rfl hl.1 rfl (lv_room (Nat.le_of_ble_eq_true rfl)) dX10_open_43 ⟨Nat.zero_le _, Nat.zero_le _⟩) hS (pW_sub rfl) (fun v43 H1 locs hB hS _ hk43 => ?_)
        obtain ⟨hH, hv43, hp43⟩ := hB
        rw [hH] at hS ⊢
        refine lv_icmp_ge (tgt := 68) hx hb dX10_open_46 (by decide) (fun c46 => ?_) (fun c46 => ?_)
        · skip
          have f46 := i_le c46
          refine lv_iload_n hx hb dX10_open_68 rfl (lv_at hl 1 rfl) ?_
          exact ret _ _ _ _ _ dX10_open_69 (hT) hS
        · skip
          have f46 := i_nle c46
          have hj41_L2_46l : iv j41_L2 0 7 := iv_ltl hj41_L2 hv43 (Int32.not_le.mp c46) (by decide)
          have hv43_46r : iv v43 1 8 := iv_ltr hj41_L2_46l hv43 (Int32.not_le.mp c46) (by decide)
          refine lv_aload_n hx hb dX10_open_49 rfl (lv_at hl 0 rfl) ?_
          refine lv_iload_n hx hb dX10_open_50 rfl (lv_at hl 2 rfl) ?_
          refine lv_aload_n hx hb dX10_open_51 rfl (lv_at hl 0 rfl) ?_
          refine lv_iload_n hx hb dX10_open_52 rfl (lv_at hl 2 rfl) ?_
          refine lv_iconst (v := 0) hx hb dX10_open_53 (by decide) ?_
          refine ti_calli (va_runV (As := [.int j41_L2, .int (0 : Int32)]) (rest := [.int j41_L2, .ref a0]) ⟨hx, hb, hml, hown, hts⟩ (t_X10_of l hT ha0 (iv_w hj41_L2_46l (by decide)) (iv_w (iv_c (x := (0 : Int32)) (k := 0) (by decide)) (by decide)) hU) (cwV 2 hts (good_V kw_490 kw_491 kw_492 kw_5 kw_493) rfl rfl rfl (by decide +kernel) ⟨by rw [hR]; decide, by rw [hR]; decide⟩) (ti_preV hK hT ha0 rfl rfl) rfl rfl hl.1 rfl (lv_room (Nat.le_of_ble_eq_true rfl)) dX10_open_54 ⟨Nat.zero_le _, Nat.zero_le _⟩) hS (pW_sub rfl) (fun v54 H1 locs hB hS _ hk54 => ?_)
          obtain ⟨hH, hp54⟩ := hB
          rw [hH] at hS ⊢
          have hf54 : iv v54 (-2147483648) 100000 := by have b0a := ((iv_top v54)).1; have b0b := ((iv_top v54)).2; exact ⟨by omega, by omega⟩
          refine lv_iload_n hx hb dX10_open_57 rfl (lv_at hl 1 rfl) ?_
          refine lv_iadd hx hb dX10_open_58 ?_
          refine lv_topi (fun v58 e58 => ?_)
          have hv58 : iv v58 (-2147483648) 2147483647 := iv_top _
          refine ti_callv (va_runV (As := [.int j41_L2, .int v58]) (rest := []) ⟨hx, hb, hml, hown, hts⟩ (t_X10_has l hT ha0 (iv_w hj41_L2_46l (by decide)) (iv_w hv58 (by decide)) hU) (cwV 2 hts (good_V kw_507 kw_508 kw_509 kw_5 kw_510) rfl rfl rfl (by decide +kernel) ⟨by rw [hR]; decide, by rw [hR]; decide⟩) (ti_preV hK hT ha0 rfl rfl) rfl rfl hl.1 rfl (lv_room (Nat.le_of_ble_eq_true rfl)) dX10_open_59 ⟨Nat.zero_le _, Nat.zero_le _⟩) hS (pW_sub rfl) (fun H locs hB hS _ hk59 => ?_)
          obtain ⟨hT, hp59⟩ := hB
          obtain ⟨v62, e62⟩ : ∃ y : Int32, y = j41_L2 + 1 := ⟨_, rfl⟩
          have hv62 : iv v62 1 8 := by rw [e62]; exact iv_w (iv_add hj41_L2_46l (iv_c (x := (1 : Int32)) (k := 1) (by decide)) (by decide)) (by decide)
          have s62 : v62.toInt = j41_L2.toInt + 1 := by rw [e62, iv_addE hj41_L2_46l (iv_c (x := (1 : Int32)) (k := 1) (by decide)) (by decide)]; rfl
          refine lv_iinc (v := v62) (lv' := [(2, .int v62), (0, .ref a0), (1, .int v21)]) hx hb dX10_open_62 hl (k := 2) rfl (by rw [e62]; rfl) (by decide) rfl (fun ls hl => ?_)
          refine lv_goto (tgt := 41) hx hb dX10_open_65 (by decide) ?_
          exact ih41 v62 _ _ _ (ms_up hms41 (by have := s62; omega) (iv_w (c := 1) (d := 8) hv62 (by decide)).2) (iv_w hv62 (by decide)) hT hS (lv_sub hl [1, 2, 0] rfl)
    refine lv_istore_n (lv' := [(2, .int (0 : Int32)), (1, .int v21), (0, .ref a0)]) hx hb dX10_open_40 rfl hl (by decide) rfl (fun ls hl => ?_)
    exact J41 _ (0 : Int32) _ _ _ (Nat.lt_succ_self _) (iv_w (iv_c (x := (0 : Int32)) (k := 0) (by decide)) (by decide)) hT hS (lv_sub hl [2, 1, 0] rfl)
  · skip
    have kl0 : (0 : Int32).toInt = 0 := by decide
    have f4 := i_eq c4
    have hv1_4l : iv v1 0 0 := iv_eql hv1 (iv_c (x := (0 : Int32)) (k := 0) (by decide)) c4 (by decide)
    refine lv_bipush (v := (-2)) hx hb dX10_open_7 (by decide) ?_
    exact ret _ _ _ _ _ dX10_open_9 (hT) hS
set_option maxHeartbeats 4000000 in
set_option maxRecDepth 100000 in
theorem t_X10_duels (l : Launch) {D : va_G} {c0 : Nat → ClassId} {Y : Nat → Option Nat} {ν : Nat → Nat} {H : Heap} (hT : TI D vwCl (tysOf c0) (RTg ν) Y H) {a0 : Nat} (ha0 : Y a0 = some 10) {x1 : Int32} (hx1 : iv x1 0 7) {x2 : Int32} (hx2 : iv x2 0 7) (hν3 : ν 3 = 0) (hν5 : ν 5 = 0) (hU : uq Y) : Met l yX10_duels (wz yX10_duels cX10_duels 6 none) { frames := 7, cells := 0, slots := 0, locals := 172 } (TP D vwCl (tysOf c0) H [.ref a0, .int x1, .int x2]) (TQv (fun H' => TI D vwCl (tysOf c0) (RTg ν) Y H') Y [10, 29, 30, 40, 41, 42]) 0 0 (pW Y [10, 29, 30, 40, 41, 42]) := by
  refine Met.ofW (cc := cX10_duels) (maxL := 6) (ret := none) (by decide) rfl ?_
  intro p e s m args below meth c s₁ B hml hv
  obtain ⟨rfl, rfl, hK⟩ := hv
  have hx := B.exec
  have hb := B.bytes
  have hr := B.returns
  have hts : ∀ w ∈ wq, w.before _ s = true := fun w h => atoms_spec (ws := wz yX10_duels cX10_duels 6 none) B.pre w (List.mem_cons_of_mem _ h)
  have hown : s.vm.findClass RX10 = some m.cls := findClass_of_methodNamed B.named
  have hlocks := B.notSynchronized
  obtain ⟨R, hR⟩ : ∃ R : Room, R = ({ frames := 7, cells := 0, slots := 0, locals := 172 } : Room) := ⟨_, rfl⟩
  rw [show (headSpec (wz yX10_duels cX10_duels 6 none) { frames := 7, cells := 0, slots := 0, locals := 172 }).room = R from hR.symm]
  refine ti_mv hx hb hr hlocks (fun Q ret => ?_)
  have hl := lv_entry [.ref a0, .int x1, .int x2] (n := 6) (Nat.le_of_ble_eq_true rfl)
  rw [lg_entry_eq]
  generalize (lg_sl [.ref a0, .int x1, .int x2] ++ List.replicate (6 - (lg_sl [.ref a0, .int x1, .int x2]).length) Slot.unset).toArray = ls at hl ⊢
  have hl : lv_has ls 6 [(0, .ref a0), (1, .int x1), (2, .int x2)] := hl
  refine ti_gen (P := fun H => TI D vwCl (tysOf c0) (RTg ν) Y H) (Y := Y) (ws := [10, 29, 30, 40, 41, 42]) hT (fun H locs hT hS => ?_)
  refine lv_iconst (v := 0) hx hb dX10_duels_0 (by decide) ?_
  have J2 : ∀ (n : Nat) (j2_L3 : Int32) (H : Heap) (locs : List Loc) (ls : Array Slot), (4 - j2_L3.toInt).toNat < n → iv j2_L3 0 4 → TI D vwCl (tysOf c0) (RTg ν) Y H → va_S (pW Y [10, 29, 30, 40, 41, 42]) s.heap H locs → lv_has ls 6 [(0, .ref a0), (1, .int x1), (2, .int x2), (3, .int j2_L3)] → W p l e R s m ([.ref a0, .int x1, .int x2] : List Value).toArray below meth c H locs 0 0 Q (F0 m 2 ls []) := by
    intro n
    induction n with
    | zero => intro j2_L3 H locs ls hms; exact absurd hms (Nat.not_lt_zero _)
    | succ n ih2 =>
      intro j2_L3 H locs ls hms2 hj2_L3 hT hS hl
      refine lv_iload_n hx hb dX10_duels_2 rfl (lv_at hl 3 rfl) ?_
      refine lv_iconst (v := 4) hx hb dX10_duels_3 (by decide) ?_
      refine lv_icmp_ge (tgt := 138) hx hb dX10_duels_4 (by decide) (fun c4 => ?_) (fun c4 => ?_)
      · skip
        have kl4 : (4 : Int32).toInt = 4 := by decide
        have f4 := i_le c4
        have hj2_L3_4r : iv j2_L3 4 4 := iv_ler (iv_c (x := (4 : Int32)) (k := 4) (by decide)) hj2_L3 c4 (by decide)
        exact ret _ _ _ _ dX10_duels_138 (hT) hS
      · skip
        have kl4 : (4 : Int32).toInt = 4 := by decide
        have f4 := i_nle c4
        have hj2_L3_4l : iv j2_L3 0 3 := iv_ltl hj2_L3 (iv_c (x := (4 : Int32)) (k := 4) (by decide)) (Int32.not_le.mp c4) (by decide)
        refine lv_iload_n hx hb dX10_duels_7 rfl (lv_at hl 3 rfl) ?_
        refine lv_iconst (v := 1) hx hb dX10_duels_8 (by decide) ?_
        refine lv_iand hx hb dX10_duels_9 ?_
        refine lv_topi (fun v9 e9 => ?_)
        have hv9 : iv v9 0 1 := by rw [e9]; exact iv_and (iv_w (iv_c (x := (1 : Int32)) (k := 1) (by decide)) (by decide))
        refine lv_aload_n hx hb dX10_duels_10 rfl (lv_at hl 0 rfl) ?_
        refine lv_iload_n hx hb dX10_duels_11 rfl (lv_at hl 1 rfl) ?_
        refine lv_iconst (v := 0) hx hb dX10_duels_12 (by decide) ?_
        refine ti_calli (va_runV (As := [.int x1, .int (0 : Int32)]) (rest := [.int v9]) ⟨hx, hb, hml, hown, hts⟩ (t_X10_of l hT ha0 (iv_w hx1 (by decide)) (iv_w (iv_c (x := (0 : Int32)) (k := 0) (by decide)) (by decide)) hU) (cwV 2 hts (good_V kw_490 kw_491 kw_492 kw_5 kw_493) rfl rfl rfl (by decide +kernel) ⟨by rw [hR]; decide, by rw [hR]; decide⟩) (ti_preV hK hT ha0 rfl rfl) rfl rfl hl.1 rfl (lv_room (Nat.le_of_ble_eq_true rfl)) dX10_duels_13 ⟨Nat.zero_le _, Nat.zero_le _⟩) hS (pW_sub rfl) (fun v13 H1 locs hB hS _ hk13 => ?_)
        obtain ⟨hH, hp13⟩ := hB
        rw [hH] at hS ⊢
        have kl0 : (0 : Int32).toInt = 0 := by decide
        have hf13 : iv v13 (-2147483648) 100000 := by have b0a := ((iv_top v13)).1; have b0b := ((iv_top v13)).2; exact ⟨by omega, by omega⟩
        refine va_mmin hx hb (by rw [hml]; exact hl.1.symm) hown (hts _ kw_394) (hts _ kw_211) (hts _ kw_212) (hts _ kw_213) (by rw [hR]; decide) (by rw [hR]; exact Nat.le_of_ble_eq_true rfl) (Nat.zero_le _) (Nat.zero_le _) dX10_duels_16 ?_
        refine lv_topi (fun v16 e16 => ?_)
        have hv16 : iv v16 (-2147483648) 1 := by rw [e16]; exact iv_min hv9 hf13 (by decide)
        refine lv_istore (lv' := [(4, .int v16), (0, .ref a0), (1, .int x1), (2, .int x2), (3, .int j2_L3)]) hx hb dX10_duels_19 hl (by decide) rfl (fun ls hl => ?_)
        refine lv_iload_n hx hb dX10_duels_21 rfl (lv_at hl 4 rfl) ?_
        refine lv_iconst (v := 1) hx hb dX10_duels_22 (by decide) ?_
        refine lv_ishr hx hb dX10_duels_23 ?_
        refine lv_topi (fun v23 e23 => ?_)
        have hv23 : iv v23 (-2147483648) 2147483647 := iv_top _
        refine lv_aload_n hx hb dX10_duels_24 rfl (lv_at hl 1 rfl) ?_
        refine lv_iload_n hx hb dX10_duels_25 rfl (lv_at hl 3 rfl) ?_
        refine lv_iconst (v := 0) hx hb dX10_duels_26 (by decide) ?_
        refine ti_calli (va_runV (As := [.int x2, .int (0 : Int32)]) (rest := [.int v23]) ⟨hx, hb, hml, hown, hts⟩ (t_X10_of l hT ha0 (iv_w hx2 (by decide)) (iv_w (iv_c (x := (0 : Int32)) (k := 0) (by decide)) (by decide)) hU) (cwV 2 hts (good_V kw_490 kw_491 kw_492 kw_5 kw_493) rfl rfl rfl (by decide +kernel) ⟨by rw [hR]; decide, by rw [hR]; decide⟩) (ti_preV hK hT ha0 rfl rfl) rfl rfl hl.1 rfl (lv_room (Nat.le_of_ble_eq_true rfl)) dX10_duels_27 ⟨Nat.zero_le _, Nat.zero_le _⟩) hS (pW_sub rfl) (fun v27 H1 locs hB hS _ hk27 => ?_)
        obtain ⟨hH, hp27⟩ := hB
        rw [hH] at hS ⊢
        have hf27 : iv v27 (-2147483648) 100000 := by have b0a := ((iv_top v27)).1; have b0b := ((iv_top v27)).2; exact ⟨by omega, by omega⟩
        refine va_mmin hx hb (by rw [hml]; exact hl.1.symm) hown (hts _ kw_394) (hts _ kw_211) (hts _ kw_212) (hts _ kw_213) (by rw [hR]; decide) (by rw [hR]; exact Nat.le_of_ble_eq_true rfl) (Nat.zero_le _) (Nat.zero_le _) dX10_duels_30 ?_
        refine lv_topi (fun v30 e30 => ?_)
        have hv30 : iv v30 (-2147483648) 100000 := by rw [e30]; exact iv_min hv23 hf27 (by decide)
        refine lv_istore (lv' := [(5, .int v30), (4, .int v16), (0, .ref a0), (1, .int x1), (2, .int x2), (3, .int j2_L3)]) hx hb dX10_duels_33 hl (by decide) rfl (fun ls hl => ?_)
        refine lv_aload_n hx hb dX10_duels_35 rfl (lv_at hl 2 rfl) ?_
        refine ti_callv (va_runV (As := []) (rest := []) ⟨hx, hb, hml, hown, hts⟩ (t_X10_thinks l hT ha0 hν3 hν5 hU) (cwV 0 hts (good_V kw_819 kw_820 kw_821 kw_5 kw_822) rfl rfl rfl (by decide +kernel) ⟨by rw [hR]; decide, by rw [hR]; decide⟩) (ti_preV hK hT ha0 rfl rfl) rfl rfl hl.1 rfl (lv_room (Nat.le_of_ble_eq_true rfl)) dX10_duels_36 ⟨Nat.zero_le _, Nat.zero_le _⟩) hS (pW_sub rfl) (fun H locs hB hS _ hk36 => ?_)
        have hT := hB
        refine lv_aload_n hx hb dX10_duels_39 rfl (lv_at hl 2 rfl) ?_
        refine lv_iload_n hx hb dX10_duels_40 rfl (lv_at hl 3 rfl) ?_
        refine lv_aload_n hx hb dX10_duels_41 rfl (lv_at hl 2 rfl) ?_
        refine lv_iload_n hx hb dX10_duels_42 rfl (lv_at hl 3 rfl) ?_
        refine lv_iconst (v := 0) hx hb dX10_duels_43 (by decide) ?_
        refine ti_calli (va_runV (As := [.int x1, .int (0 : Int32)]) (rest := [.int x1, .ref a0]) ⟨hx, hb, hml, hown, hts⟩ (t_X10_of l hT ha0 (iv_w hx1 (by decide)) (iv_w (iv_c (x := (0 : Int32)) (k := 0) (by decide)) (by decide)) hU) (cwV 2 hts (good_V kw_490 kw_491 kw_492 kw_5 kw_493) rfl rfl rfl (by decide +kernel) ⟨by rw [hR]; decide, by rw [hR]; decide⟩) (ti_preV hK hT ha0 rfl rfl) rfl rfl hl.1 rfl (lv_room (Nat.le_of_ble_eq_true rfl)) dX10_duels_44 ⟨Nat.zero_le _, Nat.zero_le _⟩) hS (pW_sub rfl) (fun v44 H1 locs hB hS _ hk44 => ?_)
        obtain ⟨hH, hp44⟩ := hB
        rw [hH] at hS ⊢
        have hf44 : iv v44 (-2147483648) 100000 := by have b0a := ((iv_top v44)).1; have b0b := ((iv_top v44)).2; exact ⟨by omega, by omega⟩
        refine lv_iload hx hb dX10_duels_47 (lv_at hl 1 rfl) ?_
        refine lv_isub hx hb dX10_duels_49 ?_
        refine lv_topi (fun v49 e49 => ?_)
        have hv49 : iv v49 (-2147483648) 2147483647 := iv_top _
        refine ti_callv (va_runV (As := [.int x1, .int v49]) (rest := []) ⟨hx, hb, hml, hown, hts⟩ (t_X10_has l hT ha0 (iv_w hx1 (by decide)) (iv_w hv49 (by decide)) hU) (cwV 2 hts (good_V kw_507 kw_508 kw_509 kw_5 kw_510) rfl rfl rfl (by decide +kernel) ⟨by rw [hR]; decide, by rw [hR]; decide⟩) (ti_preV hK hT ha0 rfl rfl) rfl rfl hl.1 rfl (lv_room (Nat.le_of_ble_eq_true rfl)) dX10_duels_50 ⟨Nat.zero_le _, Nat.zero_le _⟩) hS (pW_sub rfl) (fun H locs hB hS _ hk50 => ?_)
        obtain ⟨hT, hp50⟩ := hB
        refine lv_aload_n hx hb dX10_duels_53 rfl (lv_at hl 2 rfl) ?_
        refine lv_iload_n hx hb dX10_duels_54 rfl (lv_at hl 4 rfl) ?_
        refine lv_aload_n hx hb dX10_duels_55 rfl (lv_at hl 2 rfl) ?_
        refine lv_iload_n hx hb dX10_duels_56 rfl (lv_at hl 4 rfl) ?_
        refine lv_iconst (v := 0) hx hb dX10_duels_57 (by decide) ?_
        refine ti_calli (va_runV (As := [.int x2, .int (0 : Int32)]) (rest := [.int x2, .ref a0]) ⟨hx, hb, hml, hown, hts⟩ (t_X10_of l hT ha0 (iv_w hx2 (by decide)) (iv_w (iv_c (x := (0 : Int32)) (k := 0) (by decide)) (by decide)) hU) (cwV 2 hts (good_V kw_490 kw_491 kw_492 kw_5 kw_493) rfl rfl rfl (by decide +kernel) ⟨by rw [hR]; decide, by rw [hR]; decide⟩) (ti_preV hK hT ha0 rfl rfl) rfl rfl hl.1 rfl (lv_room (Nat.le_of_ble_eq_true rfl)) dX10_duels_58 ⟨Nat.zero_le _, Nat.zero_le _⟩) hS (pW_sub rfl) (fun v58 H1 locs hB hS _ hk58 => ?_)
        obtain ⟨hH, hp58⟩ := hB
        rw [hH] at hS ⊢
        have hf58 : iv v58 (-2147483648) 100000 := by have b0a := ((iv_top v58)).1; have b0b := ((iv_top v58)).2; exact ⟨by omega, by omega⟩
        refine lv_iload hx hb dX10_duels_61 (lv_at hl 0 rfl) ?_
        refine lv_isub hx hb dX10_duels_63 ?_
        refine lv_topi (fun v63 e63 => ?_)
        have hv63 : iv v63 (-2147483648) 2147483647 := iv_top _
        refine ti_callv (va_runV (As := [.int x2, .int v63]) (rest := []) ⟨hx, hb, hml, hown, hts⟩ (t_X10_has l hT ha0 (iv_w hx2 (by decide)) (iv_w hv63 (by decide)) hU) (cwV 2 hts (good_V kw_507 kw_508 kw_509 kw_5 kw_510) rfl rfl rfl (by decide +kernel) ⟨by rw [hR]; decide, by rw [hR]; decide⟩) (ti_preV hK hT ha0 rfl rfl) rfl rfl hl.1 rfl (lv_room (Nat.le_of_ble_eq_true rfl)) dX10_duels_64 ⟨Nat.zero_le _, Nat.zero_le _⟩) hS (pW_sub rfl) (fun H locs hB hS _ hk64 => ?_)
        obtain ⟨hT, hp64⟩ := hB
        refine lv_aload_n hx hb dX10_duels_67 rfl (lv_at hl 2 rfl) ?_
        refine ti_calli (va_runV (As := []) (rest := []) ⟨hx, hb, hml, hown, hts⟩ (t_X10_strikesPlainly l hT ha0 hU) (cwV 0 hts (good_V kw_723 kw_724 kw_725 kw_5 kw_726) rfl rfl rfl (by decide +kernel) ⟨by rw [hR]; decide, by rw [hR]; decide⟩) (ti_preV hK hT ha0 rfl rfl) rfl rfl hl.1 rfl (lv_room (Nat.le_of_ble_eq_true rfl)) dX10_duels_68 ⟨Nat.zero_le _, Nat.zero_le _⟩) hS (pW_sub rfl) (fun v68 H locs hB hS _ hk68 => ?_)
        have hT := hB
        refine lv_pop hx hb dX10_duels_71 rfl ?_
        refine lv_aload_n hx hb dX10_duels_72 rfl (lv_at hl 2 rfl) ?_
        refine ti_getr hx hb hts inlX10 hown hK hT ha0 rfl rfl rfl 32 (by decide) (hts _ kw_149) (fun _ h9 => h9) rfl dX10_duels_73 (fun v73 hv73 hm73 => ?_)
        refine lv_iload_n hx hb dX10_duels_76 rfl (lv_at hl 5 rfl) ?_
        refine lv_aload_n hx hb dX10_duels_77 rfl (lv_at hl 2 rfl) ?_
        refine lv_iload_n hx hb dX10_duels_78 rfl (lv_at hl 3 rfl) ?_
        refine lv_bipush (v := 7) hx hb dX10_duels_79 (by decide) ?_
        refine ti_calli (va_runV (As := [.int x1, .int (7 : Int32)]) (rest := [.int j2_L3, .ref v73]) ⟨hx, hb, hml, hown, hts⟩ (t_X10_of l hT ha0 (iv_w hx1 (by decide)) (iv_w (iv_c (x := (7 : Int32)) (k := 7) (by decide)) (by decide)) hU) (cwV 2 hts (good_V kw_490 kw_491 kw_492 kw_5 kw_493) rfl rfl rfl (by decide +kernel) ⟨by rw [hR]; decide, by rw [hR]; decide⟩) (ti_preV hK hT ha0 rfl rfl) rfl rfl hl.1 rfl (lv_room (Nat.le_of_ble_eq_true rfl)) dX10_duels_81 ⟨Nat.zero_le _, Nat.zero_le _⟩) hS (pW_sub rfl) (fun v81 H1 locs hB hS _ hk81 => ?_)
        obtain ⟨hH, hp81⟩ := hB
        rw [hH] at hS ⊢
        have kl7 : (7 : Int32).toInt = 7 := by decide
        refine lv_aload_n hx hb dX10_duels_84 rfl (lv_at hl 2 rfl) ?_
        refine lv_iload_n hx hb dX10_duels_85 rfl (lv_at hl 3 rfl) ?_
        refine lv_iconst (v := 0) hx hb dX10_duels_86 (by decide) ?_
        refine ti_calli (va_runV (As := [.int x1, .int (0 : Int32)]) (rest := [.int v81, .int j2_L3, .ref v73]) ⟨hx, hb, hml, hown, hts⟩ (t_X10_of l hT ha0 (iv_w hx1 (by decide)) (iv_w (iv_c (x := (0 : Int32)) (k := 0) (by decide)) (by decide)) hU) (cwV 2 hts (good_V kw_490 kw_491 kw_492 kw_5 kw_493) rfl rfl rfl (by decide +kernel) ⟨by rw [hR]; decide, by rw [hR]; decide⟩) (ti_preV hK hT ha0 rfl rfl) rfl rfl hl.1 rfl (lv_room (Nat.le_of_ble_eq_true rfl)) dX10_duels_87 ⟨Nat.zero_le _, Nat.zero_le _⟩) hS (pW_sub rfl) (fun v87 H1 locs hB hS _ hk87 => ?_)
        obtain ⟨hH, hp87⟩ := hB
        rw [hH] at hS ⊢
        have hf87 : iv v87 (-2147483648) 100000 := by have b0a := ((iv_top v87)).1; have b0b := ((iv_top v87)).2; exact ⟨by omega, by omega⟩
        refine lv_imul hx hb dX10_duels_90 ?_
        refine lv_topi (fun v90 e90 => ?_)
        have hv90 : iv v90 (-2147483648) 2147483647 := iv_top _
        refine lv_aload_n hx hb dX10_duels_91 rfl (lv_at hl 2 rfl) ?_
        refine lv_iload_n hx hb dX10_duels_92 rfl (lv_at hl 3 rfl) ?_
        refine lv_iload hx hb dX10_duels_93 (lv_at hl 1 rfl) ?_
        refine ti_calli (va_runV (As := [.int x1, .int v16]) (rest := [.int v90, .int j2_L3, .ref v73]) ⟨hx, hb, hml, hown, hts⟩ (t_X10_joy l hT ha0 (iv_w hx1 (by decide)) (iv_w hv16 (by decide)) hU) (cwV 2 hts (good_V kw_791 kw_792 kw_793 kw_5 kw_794) rfl rfl rfl (by decide +kernel) ⟨by rw [hR]; decide, by rw [hR]; decide⟩) (ti_preV hK hT ha0 rfl rfl) rfl rfl hl.1 rfl (lv_room (Nat.le_of_ble_eq_true rfl)) dX10_duels_95 ⟨Nat.zero_le _, Nat.zero_le _⟩) hS (pW_sub rfl) (fun v95 H1 locs hB hS _ hk95 => ?_)
        have hH := hB
        rw [hH] at hS ⊢
        refine lv_iadd hx hb dX10_duels_98 ?_
        refine lv_topi (fun v98 e98 => ?_)
        have hv98 : iv v98 (-2147483648) 2147483647 := iv_top _
        refine ti_iast hx hb (aT0 hK) hT hS hv73 rfl rfl hj2_L3_4l (by decide) (fun _ _ _ => ⟨_, _, rfl, by decide, by decide⟩) hv98 (fun _ _ => trivial) dX10_duels_99 (fun H locs hT hS oq99 he99 hk99 => ?_)
        refine lv_aload_n hx hb dX10_duels_100 rfl (lv_at hl 2 rfl) ?_
        refine ti_getr hx hb hts inlX10 hown hK hT ha0 rfl rfl rfl 33 (by decide) (hts _ kw_150) (fun _ h9 => h9) rfl dX10_duels_101 (fun v101 hv101 hm101 => ?_)
        refine lv_iload_n hx hb dX10_duels_104 rfl (lv_at hl 5 rfl) ?_
        refine lv_aload_n hx hb dX10_duels_105 rfl (lv_at hl 2 rfl) ?_
        refine lv_iload_n hx hb dX10_duels_106 rfl (lv_at hl 4 rfl) ?_
        refine lv_bipush (v := 7) hx hb dX10_duels_107 (by decide) ?_
        refine ti_calli (va_runV (As := [.int x2, .int (7 : Int32)]) (rest := [.int j2_L3, .ref v101]) ⟨hx, hb, hml, hown, hts⟩ (t_X10_of l hT ha0 (iv_w hx2 (by decide)) (iv_w (iv_c (x := (7 : Int32)) (k := 7) (by decide)) (by decide)) hU) (cwV 2 hts (good_V kw_490 kw_491 kw_492 kw_5 kw_493) rfl rfl rfl (by decide +kernel) ⟨by rw [hR]; decide, by rw [hR]; decide⟩) (ti_preV hK hT ha0 rfl rfl) rfl rfl hl.1 rfl (lv_room (Nat.le_of_ble_eq_true rfl)) dX10_duels_109 ⟨Nat.zero_le _, Nat.zero_le _⟩) hS (pW_sub rfl) (fun v109 H1 locs hB hS _ hk109 => ?_)
        obtain ⟨hH, hp109⟩ := hB
        rw [hH] at hS ⊢
        refine lv_aload_n hx hb dX10_duels_112 rfl (lv_at hl 2 rfl) ?_
        refine lv_iload_n hx hb dX10_duels_113 rfl (lv_at hl 4 rfl) ?_
        refine lv_iconst (v := 0) hx hb dX10_duels_114 (by decide) ?_
        refine ti_calli (va_runV (As := [.int x2, .int (0 : Int32)]) (rest := [.int v109, .int j2_L3, .ref v101]) ⟨hx, hb, hml, hown, hts⟩ (t_X10_of l hT ha0 (iv_w hx2 (by decide)) (iv_w (iv_c (x := (0 : Int32)) (k := 0) (by decide)) (by decide)) hU) (cwV 2 hts (good_V kw_490 kw_491 kw_492 kw_5 kw_493) rfl rfl rfl (by decide +kernel) ⟨by rw [hR]; decide, by rw [hR]; decide⟩) (ti_preV hK hT ha0 rfl rfl) rfl rfl hl.1 rfl (lv_room (Nat.le_of_ble_eq_true rfl)) dX10_duels_115 ⟨Nat.zero_le _, Nat.zero_le _⟩) hS (pW_sub rfl) (fun v115 H1 locs hB hS _ hk115 => ?_)
        obtain ⟨hH, hp115⟩ := hB
        rw [hH] at hS ⊢
        have hf115 : iv v115 (-2147483648) 100000 := by have b0a := ((iv_top v115)).1; have b0b := ((iv_top v115)).2; exact ⟨by omega, by omega⟩
        refine lv_imul hx hb dX10_duels_118 ?_
        refine lv_topi (fun v118 e118 => ?_)
        have hv118 : iv v118 (-2147483648) 2147483647 := iv_top _
        refine lv_aload_n hx hb dX10_duels_119 rfl (lv_at hl 2 rfl) ?_
        refine lv_iload_n hx hb dX10_duels_120 rfl (lv_at hl 4 rfl) ?_
        refine lv_iload hx hb dX10_duels_121 (lv_at hl 0 rfl) ?_
        refine ti_calli (va_runV (As := [.int x2, .int v30]) (rest := [.int v118, .int j2_L3, .ref v101]) ⟨hx, hb, hml, hown, hts⟩ (t_X10_joy l hT ha0 (iv_w hx2 (by decide)) (iv_w hv30 (by decide)) hU) (cwV 2 hts (good_V kw_791 kw_792 kw_793 kw_5 kw_794) rfl rfl rfl (by decide +kernel) ⟨by rw [hR]; decide, by rw [hR]; decide⟩) (ti_preV hK hT ha0 rfl rfl) rfl rfl hl.1 rfl (lv_room (Nat.le_of_ble_eq_true rfl)) dX10_duels_123 ⟨Nat.zero_le _, Nat.zero_le _⟩) hS (pW_sub rfl) (fun v123 H1 locs hB hS _ hk123 => ?_)
        have hH := hB
        rw [hH] at hS ⊢
        refine lv_iadd hx hb dX10_duels_126 ?_
        refine lv_topi (fun v126 e126 => ?_)
        have hv126 : iv v126 (-2147483648) 2147483647 := iv_top _
        refine ti_iast hx hb (aT0 hK) hT hS hv101 rfl rfl hj2_L3_4l (by decide) (fun _ _ _ => ⟨_, _, rfl, by decide, by decide⟩) hv126 (fun _ _ => trivial) dX10_duels_127 (fun H locs hT hS oq127 he127 hk127 => ?_)
        refine lv_aload_n hx hb dX10_duels_128 rfl (lv_at hl 2 rfl) ?_
        refine ti_callv (va_runV (As := []) (rest := []) ⟨hx, hb, hml, hown, hts⟩ (t_X10_wakes l hT ha0 rfl rfl hU) (cwV 0 hts (good_V kw_824 kw_825 kw_826 kw_5 kw_827) rfl rfl rfl (by decide +kernel) ⟨by rw [hR]; decide, by rw [hR]; decide⟩) (ti_preV hK hT ha0 rfl rfl) rfl rfl hl.1 rfl (lv_room (Nat.le_of_ble_eq_true rfl)) dX10_duels_129 ⟨Nat.zero_le _, Nat.zero_le _⟩) hS (pW_sub rfl) (fun H locs hB hS _ hk129 => ?_)
        have hT := hB
        rw [nu_back hν3 hν5] at hT
        obtain ⟨v132, e132⟩ : ∃ y : Int32, y = j2_L3 + 1 := ⟨_, rfl⟩
        have hv132 : iv v132 1 4 := by rw [e132]; exact iv_w (iv_add hj2_L3_4l (iv_c (x := (1 : Int32)) (k := 1) (by decide)) (by decide)) (by decide)
        have s132 : v132.toInt = j2_L3.toInt + 1 := by rw [e132, iv_addE hj2_L3_4l (iv_c (x := (1 : Int32)) (k := 1) (by decide)) (by decide)]; rfl
        refine lv_iinc (v := v132) (lv' := [(3, .int v132), (5, .int v30), (4, .int v16), (0, .ref a0), (1, .int x1), (2, .int x2)]) hx hb dX10_duels_132 hl (k := 5) rfl (by rw [e132]; rfl) (by decide) rfl (fun ls hl => ?_)
        refine lv_goto (tgt := 2) hx hb dX10_duels_135 (by decide) ?_
        exact ih2 v132 _ _ _ (ms_up hms2 (by have := s132; omega) (iv_w (c := 1) (d := 4) hv132 (by decide)).2) (iv_w hv132 (by decide)) hT hS (lv_sub hl [3, 4, 5, 0] rfl)
  refine lv_istore_n (lv' := [(3, .int (0 : Int32)), (0, .ref a0), (1, .int x1), (2, .int x2)]) hx hb dX10_duels_1 rfl hl (by decide) rfl (fun ls hl => ?_)
  exact J2 _ (0 : Int32) _ _ _ (Nat.lt_succ_self _) (iv_w (iv_c (x := (0 : Int32)) (k := 0) (by decide)) (by decide)) hT hS (lv_sub hl [1, 2, 3, 0] rfl)
set_option maxHeartbeats 4000000 in
set_option maxRecDepth 100000 in
theorem t_X10_duel (l : Launch) {D : va_G} {c0 : Nat → ClassId} {Y : Nat → Option Nat} {ν : Nat → Nat} {H : Heap} (hT : TI D vwCl (tysOf c0) (RTg ν) Y H) {a0 : Nat} (ha0 : Y a0 = some 10) {x1 : Int32} (hx1 : iv x1 (-2147483648) 2147483647) {x2 : Int32} (hx2 : iv x2 (-2147483648) 2147483647) (hν3 : ν 3 = 0) (hν5 : ν 5 = 0) (hU : uq Y) : Met l yX10_duel (wz yX10_duel cX10_duel 5 (some .int)) { frames := 8, cells := 0, slots := 0, locals := 197 } (TP D vwCl (tysOf c0) H [.ref a0, .int x1, .int x2]) (TQi (fun x H' => TI D vwCl (tysOf c0) (RTg ν) Y H') Y [10, 29, 30, 40, 41, 42]) 0 0 (pW Y [10, 29, 30, 40, 41, 42]) := by
  refine Met.ofW (cc := cX10_duel) (maxL := 5) (ret := (some .int)) (by decide) rfl ?_
  intro p e s m args below meth c s₁ B hml hv
  obtain ⟨rfl, rfl, hK⟩ := hv
  have hx := B.exec
  have hb := B.bytes
  have hr := B.returns
  have hts : ∀ w ∈ wq, w.before _ s = true := fun w h => atoms_spec (ws := wz yX10_duel cX10_duel 5 (some .int)) B.pre w (List.mem_cons_of_mem _ h)
  have hown : s.vm.findClass RX10 = some m.cls := findClass_of_methodNamed B.named
  have hlocks := B.notSynchronized
  obtain ⟨R, hR⟩ : ∃ R : Room, R = ({ frames := 8, cells := 0, slots := 0, locals := 197 } : Room) := ⟨_, rfl⟩
  rw [show (headSpec (wz yX10_duel cX10_duel 5 (some .int)) { frames := 8, cells := 0, slots := 0, locals := 197 }).room = R from hR.symm]
  refine ti_mi hx hb hr hlocks (fun Q ret => ?_)
  have hl := lv_entry [.ref a0, .int x1, .int x2] (n := 5) (Nat.le_of_ble_eq_true rfl)
  rw [lg_entry_eq]
  generalize (lg_sl [.ref a0, .int x1, .int x2] ++ List.replicate (5 - (lg_sl [.ref a0, .int x1, .int x2]).length) Slot.unset).toArray = ls at hl ⊢
  have hl : lv_has ls 5 [(0, .ref a0), (1, .int x1), (2, .int x2)] := hl
  refine ti_gen (P := fun H => TI D vwCl (tysOf c0) (RTg ν) Y H) (Y := Y) (ws := [10, 29, 30, 40, 41, 42]) hT (fun H locs hT hS => ?_)
  refine lv_aload_n hx hb dX10_duel_0 rfl (lv_at hl 0 rfl) ?_
  refine lv_iload_n hx hb dX10_duel_1 rfl (lv_at hl 1 rfl) ?_
  refine lv_iload_n hx hb dX10_duel_2 rfl (lv_at hl 2 rfl) ?_
  refine ti_calli (va_runV (As := [.int x1, .int x2]) (rest := []) ⟨hx, hb, hml, hown, hts⟩ (t_X10_areTwo l hT ha0 (iv_w hx1 (by decide)) (iv_w hx2 (by decide)) hU) (cwV 2 hts (good_V kw_545 kw_546 kw_547 kw_5 kw_548) rfl rfl rfl (by decide +kernel) ⟨by rw [hR]; decide, by rw [hR]; decide⟩) (ti_preV hK hT ha0 rfl rfl) rfl rfl hl.1 rfl (lv_room (Nat.le_of_ble_eq_true rfl)) dX10_duel_3 ⟨Nat.zero_le _, Nat.zero_le _⟩) hS (pW_sub rfl) (fun v3 H1 locs hB hS _ hk3 => ?_)
  obtain ⟨hH, hv3, hp3⟩ := hB
  rw [hH] at hS ⊢
  refine lv_if_ne (tgt := 12) hx hb dX10_duel_6 (by decide) (fun c6 => ?_) (fun c6 => ?_)
  · skip
    have kl0 : (0 : Int32).toInt = 0 := by decide
    have f6 := i_ne c6
    have hv3_6l : iv v3 1 1 := iv_nel hv3 (iv_c (x := (0 : Int32)) (k := 0) (by decide)) c6 (by decide)
    have hx1_6p : iv x1 0 7 := by have b0a := (hx1).1; have b0b := (hx1).2; exact ⟨by omega, by omega⟩
    have hx2_6p : iv x2 0 7 := by have b0a := (hx2).1; have b0b := (hx2).2; exact ⟨by omega, by omega⟩
    refine lv_aload_n hx hb dX10_duel_12 rfl (lv_at hl 0 rfl) ?_
    refine lv_iload_n hx hb dX10_duel_13 rfl (lv_at hl 1 rfl) ?_
    refine lv_iload_n hx hb dX10_duel_14 rfl (lv_at hl 2 rfl) ?_
    refine ti_callv (va_runV (As := [.int x1, .int x2]) (rest := []) ⟨hx, hb, hml, hown, hts⟩ (t_X10_duels l hT ha0 (iv_w hx1_6p (by decide)) (iv_w hx2_6p (by decide)) hν3 hν5 hU) (cwV 2 hts (good_V kw_1476 kw_1477 kw_1478 kw_5 kw_1479) rfl rfl rfl (by decide +kernel) ⟨by rw [hR]; decide, by rw [hR]; decide⟩) (ti_preV hK hT ha0 rfl rfl) rfl rfl hl.1 rfl (lv_room (Nat.le_of_ble_eq_true rfl)) dX10_duel_15 ⟨Nat.zero_le _, Nat.zero_le _⟩) hS (pW_sub rfl) (fun H locs hB hS _ hk15 => ?_)
    have hT := hB
    refine lv_iconst (v := 0) hx hb dX10_duel_18 (by decide) ?_
    refine lv_istore_n (lv' := [(3, .int (0 : Int32)), (0, .ref a0), (1, .int x1), (2, .int x2)]) hx hb dX10_duel_19 rfl hl (by decide) rfl (fun ls hl => ?_)
    refine lv_iconst (v := 0) hx hb dX10_duel_20 (by decide) ?_
    have J23 : ∀ (n : Nat) (j23_L3 : Int32) (j23_L4 : Int32) (H : Heap) (locs : List Loc) (ls : Array Slot), (4 - j23_L4.toInt).toNat < n → iv j23_L3 (-2147483648) 2147483647 → iv j23_L4 0 4 → TI D vwCl (tysOf c0) (RTg ν) Y H → va_S (pW Y [10, 29, 30, 40, 41, 42]) s.heap H locs → lv_has ls 5 [(0, .ref a0), (1, .int x1), (2, .int x2), (3, .int j23_L3), (4, .int j23_L4)] → W p l e R s m ([.ref a0, .int x1, .int x2] : List Value).toArray below meth c H locs 0 0 Q (F0 m 23 ls []) := by
      intro n
      induction n with
      | zero => intro j23_L3 j23_L4 H locs ls hms; exact absurd hms (Nat.not_lt_zero _)
      | succ n ih23 =>
        intro j23_L3 j23_L4 H locs ls hms23 hj23_L3 hj23_L4 hT hS hl
        refine lv_iload hx hb dX10_duel_23 (lv_at hl 4 rfl) ?_
        refine lv_iconst (v := 4) hx hb dX10_duel_25 (by decide) ?_
        refine lv_icmp_ge (tgt := 84) hx hb dX10_duel_26 (by decide) (fun c26 => ?_) (fun c26 => ?_)
        · skip
          have kl4 : (4 : Int32).toInt = 4 := by decide
          have f26 := i_le c26
          have hj23_L4_26r : iv j23_L4 4 4 := iv_ler (iv_c (x := (4 : Int32)) (k := 4) (by decide)) hj23_L4 c26 (by decide)
          refine lv_iload_n hx hb dX10_duel_84 rfl (lv_at hl 3 rfl) ?_
          exact ret _ _ _ _ _ dX10_duel_85 (hT) hS
        · skip
          have kl4 : (4 : Int32).toInt = 4 := by decide
          have f26 := i_nle c26
          have hj23_L4_26l : iv j23_L4 0 3 := iv_ltl hj23_L4 (iv_c (x := (4 : Int32)) (k := 4) (by decide)) (Int32.not_le.mp c26) (by decide)
          refine lv_iload_n hx hb dX10_duel_29 rfl (lv_at hl 3 rfl) ?_
          refine lv_aload_n hx hb dX10_duel_30 rfl (lv_at hl 0 rfl) ?_
          refine ti_getr hx hb hts inlX10 hown hK hT ha0 rfl rfl rfl 32 (by decide) (hts _ kw_149) (fun _ h9 => h9) rfl dX10_duel_31 (fun v31 hv31 hm31 => ?_)
          refine lv_iload hx hb dX10_duel_34 (lv_at hl 4 rfl) ?_
          refine lv_iconst (v := 1) hx hb dX10_duel_36 (by decide) ?_
          refine lv_ixor hx hb dX10_duel_37 ?_
          refine lv_topi (fun v37 e37 => ?_)
          have hv37 : iv v37 0 3 := by rw [e37]; exact iv_w (iv_xor 2 (iv_w (c := 0) (d := 3) hj23_L4_26l (by decide)) (iv_w (c := 0) (d := 1) (iv_c (x := (1 : Int32)) (k := 1) (by decide)) (by decide)) (by decide)) (by decide)
          refine ti_iald (lo := (-2147483648)) (hi := 2147483647) hx hb (aT0 hK) hT hv31 rfl hv37 (by decide) (fun _ _ _ => ⟨_, _, rfl, by decide, by decide⟩) dX10_duel_38 (fun v38 hv38 hm38 => ?_)
          refine lv_aload_n hx hb dX10_duel_39 rfl (lv_at hl 0 rfl) ?_
          refine ti_getE (ci := 10) (v := .ref v31) hx hb hts inlX10 hown hK hm31 rfl (by decide) (hts _ kw_149) (fun _ h9 => h9) dX10_duel_40 ?_
          refine lv_iload hx hb dX10_duel_43 (lv_at hl 4 rfl) ?_
          refine ti_iald (lo := (-2147483648)) (hi := 2147483647) hx hb (aT0 hK) hT hv31 rfl hj23_L4_26l (by decide) (fun _ _ _ => ⟨_, _, rfl, by decide, by decide⟩) dX10_duel_45 (fun v45 hv45 hm45 => ?_)
          have J76 : ∀ (j76_S1 : Int32) (H : Heap) (locs : List Loc) (ls : Array Slot), iv j76_S1 (-2147483648) 2147483647 → TI D vwCl (tysOf c0) (RTg ν) Y H → va_S (pW Y [10, 29, 30, 40, 41, 42]) s.heap H locs → lv_has ls 5 [(0, .ref a0), (1, .int x1), (2, .int x2), (3, .int j23_L3), (4, .int j23_L4)] → W p l e R s m ([.ref a0, .int x1, .int x2] : List Value).toArray below meth c H locs 0 0 Q (F0 m 76 ls [.int j76_S1, .int j23_L3]) := by
            intro j76_S1 H locs ls hj76_S1 hT hS hl
            refine lv_ior hx hb dX10_duel_76 ?_
            refine lv_topi (fun v76 e76 => ?_)
            have hv76 : iv v76 (-2147483648) 2147483647 := iv_top _
            refine lv_istore_n (lv' := [(3, .int v76), (0, .ref a0), (1, .int x1), (2, .int x2), (4, .int j23_L4)]) hx hb dX10_duel_77 rfl hl (by decide) rfl (fun ls hl => ?_)
            obtain ⟨v78, e78⟩ : ∃ y : Int32, y = j23_L4 + 1 := ⟨_, rfl⟩
            have hv78 : iv v78 1 4 := by rw [e78]; exact iv_w (iv_add hj23_L4_26l (iv_c (x := (1 : Int32)) (k := 1) (by decide)) (by decide)) (by decide)
            have s78 : v78.toInt = j23_L4.toInt + 1 := by rw [e78, iv_addE hj23_L4_26l (iv_c (x := (1 : Int32)) (k := 1) (by decide)) (by decide)]; rfl
            refine lv_iinc (v := v78) (lv' := [(4, .int v78), (3, .int v76), (0, .ref a0), (1, .int x1), (2, .int x2)]) hx hb dX10_duel_78 hl (k := 4) rfl (by rw [e78]; rfl) (by decide) rfl (fun ls hl => ?_)
            refine lv_goto (tgt := 23) hx hb dX10_duel_81 (by decide) ?_
            exact ih23 v76 v78 _ _ _ (ms_up hms23 (by have := s78; omega) (iv_w (c := 1) (d := 4) hv78 (by decide)).2) (iv_w hv76 (by decide)) (iv_w hv78 (by decide)) hT hS (lv_sub hl [2, 3, 4, 1, 0] rfl)
          have J75 : ∀  (H : Heap) (locs : List Loc) (ls : Array Slot), TI D vwCl (tysOf c0) (RTg ν) Y H → va_S (pW Y [10, 29, 30, 40, 41, 42]) s.heap H locs → lv_has ls 5 [(0, .ref a0), (1, .int x1), (2, .int x2), (3, .int j23_L3), (4, .int j23_L4)] → W p l e R s m ([.ref a0, .int x1, .int x2] : List Value).toArray below meth c H locs 0 0 Q (F0 m 75 ls [.int j23_L3]) := by
            intro  H locs ls  hT hS hl
            refine lv_iconst (v := 0) hx hb dX10_duel_75 (by decide) ?_
            exact J76 (0 : Int32) _ _ _  (iv_w (iv_c (x := (0 : Int32)) (k := 0) (by decide)) (by decide)) hT hS (lv_sub hl [0, 1, 2, 3, 4] rfl)
          refine lv_icmp_gt (tgt := 75) hx hb dX10_duel_46 (by decide) (fun c46 => ?_) (fun c46 => ?_)
          · skip
            have f46 := i_lt c46
            have hv45_46l : iv v45 (-2147483648) 2147483646 := iv_ltl hv45 hv38 c46 (by decide)
            have hv38_46r : iv v38 (-2147483647) 2147483647 := iv_ltr hv45_46l hv38 c46 (by decide)
            exact J75  _ _ _   hT hS (lv_sub hl [0, 1, 2, 3, 4] rfl)
          · skip
            have f46 := i_nlt c46
            refine lv_aload_n hx hb dX10_duel_49 rfl (lv_at hl 0 rfl) ?_
            refine ti_getr hx hb hts inlX10 hown hK hT ha0 rfl rfl rfl 33 (by decide) (hts _ kw_150) (fun _ h9 => h9) rfl dX10_duel_50 (fun v50 hv50 hm50 => ?_)
            refine lv_iload hx hb dX10_duel_53 (lv_at hl 4 rfl) ?_
            refine lv_iconst (v := 2) hx hb dX10_duel_55 (by decide) ?_
            refine lv_ixor hx hb dX10_duel_56 ?_
            refine lv_topi (fun v56 e56 => ?_)
            have hv56 : iv v56 0 3 := by rw [e56]; exact iv_w (iv_xor 2 (iv_w (c := 0) (d := 3) hj23_L4_26l (by decide)) (iv_w (c := 0) (d := 2) (iv_c (x := (2 : Int32)) (k := 2) (by decide)) (by decide)) (by decide)) (by decide)
            refine ti_iald (lo := (-2147483648)) (hi := 2147483647) hx hb (aT0 hK) hT hv50 rfl hv56 (by decide) (fun _ _ _ => ⟨_, _, rfl, by decide, by decide⟩) dX10_duel_57 (fun v57 hv57 hm57 => ?_)
            refine lv_aload_n hx hb dX10_duel_58 rfl (lv_at hl 0 rfl) ?_
            refine ti_getE (ci := 10) (v := .ref v50) hx hb hts inlX10 hown hK hm50 rfl (by decide) (hts _ kw_150) (fun _ h9 => h9) dX10_duel_59 ?_
            refine lv_iload hx hb dX10_duel_62 (lv_at hl 4 rfl) ?_
            refine ti_iald (lo := (-2147483648)) (hi := 2147483647) hx hb (aT0 hK) hT hv50 rfl hj23_L4_26l (by decide) (fun _ _ _ => ⟨_, _, rfl, by decide, by decide⟩) dX10_duel_64 (fun v64 hv64 hm64 => ?_)
            refine lv_icmp_gt (tgt := 75) hx hb dX10_duel_65 (by decide) (fun c65 => ?_) (fun c65 => ?_)
            · skip
              have f65 := i_lt c65
              have hv64_65l : iv v64 (-2147483648) 2147483646 := iv_ltl hv64 hv57 c65 (by decide)
              have hv57_65r : iv v57 (-2147483647) 2147483647 := iv_ltr hv64_65l hv57 c65 (by decide)
              exact J75  _ _ _   hT hS (lv_sub hl [0, 1, 2, 3, 4] rfl)
            · skip
              have f65 := i_nlt c65
              refine lv_iconst (v := 1) hx hb dX10_duel_68 (by decide) ?_
              refine lv_iload hx hb dX10_duel_69 (lv_at hl 4 rfl) ?_
              refine lv_ishl hx hb dX10_duel_71 ?_
              refine lv_topi (fun v71 e71 => ?_)
              have hv71 : iv v71 (-2147483648) 2147483647 := iv_top _
              refine lv_goto (tgt := 76) hx hb dX10_duel_72 (by decide) ?_
              exact J76 v71 _ _ _  (iv_w hv71 (by decide)) hT hS (lv_sub hl [0, 1, 2, 3, 4] rfl)
    refine lv_istore (lv' := [(4, .int (0 : Int32)), (3, .int (0 : Int32)), (0, .ref a0), (1, .int x1), (2, .int x2)]) hx hb dX10_duel_21 hl (by decide) rfl (fun ls hl => ?_)
    exact J23 _ (0 : Int32) (0 : Int32) _ _ _ (Nat.lt_succ_self _) (iv_w (iv_c (x := (0 : Int32)) (k := 0) (by decide)) (by decide)) (iv_w (iv_c (x := (0 : Int32)) (k := 0) (by decide)) (by decide)) hT hS (lv_sub hl [2, 3, 4, 1, 0] rfl)
  · skip
    have kl0 : (0 : Int32).toInt = 0 := by decide
    have f6 := i_eq c6
    have hv3_6l : iv v3 0 0 := iv_eql hv3 (iv_c (x := (0 : Int32)) (k := 0) (by decide)) c6 (by decide)
    refine lv_bipush (v := (-2)) hx hb dX10_duel_9 (by decide) ?_
    exact ret _ _ _ _ _ dX10_duel_11 (hT) hS
set_option maxHeartbeats 4000000 in
set_option maxRecDepth 100000 in
theorem t_X10_mixed (l : Launch) {D : va_G} {c0 : Nat → ClassId} {Y : Nat → Option Nat} {ν : Nat → Nat} {H : Heap} (hT : TI D vwCl (tysOf c0) (RTg ν) Y H) {a0 : Nat} (ha0 : Y a0 = some 10) {x1 : Int32} (hx1 : iv x1 (-2147483648) 2147483647) {x2 : Int32} (hx2 : iv x2 (-2147483648) 2147483647) (hν3 : ν 3 = 0) (hν5 : ν 5 = 0) (hU : uq Y) : Met l yX10_mixed (wz yX10_mixed cX10_mixed 7 (some .int)) { frames := 8, cells := 0, slots := 0, locals := 197 } (TP D vwCl (tysOf c0) H [.ref a0, .int x1, .int x2]) (TQi (fun x H' => TI D vwCl (tysOf c0) (RTg ν) Y H') Y [10, 29, 30, 40, 41, 42]) 0 0 (pW Y [10, 29, 30, 40, 41, 42]) := by
  refine Met.ofW (cc := cX10_mixed) (maxL := 7) (ret := (some .int)) (by decide) rfl ?_
  intro p e s m args below meth c s₁ B hml hv
  obtain ⟨rfl, rfl, hK⟩ := hv
  have hx := B.exec
  have hb := B.bytes
  have hr := B.returns
  have hts : ∀ w ∈ wq, w.before _ s = true := fun w h => atoms_spec (ws := wz yX10_mixed cX10_mixed 7 (some .int)) B.pre w (List.mem_cons_of_mem _ h)
  have hown : s.vm.findClass RX10 = some m.cls := findClass_of_methodNamed B.named
  have hlocks := B.notSynchronized
  obtain ⟨R, hR⟩ : ∃ R : Room, R = ({ frames := 8, cells := 0, slots := 0, locals := 197 } : Room) := ⟨_, rfl⟩
  rw [show (headSpec (wz yX10_mixed cX10_mixed 7 (some .int)) { frames := 8, cells := 0, slots := 0, locals := 197 }).room = R from hR.symm]
  refine ti_mi hx hb hr hlocks (fun Q ret => ?_)
  have hl := lv_entry [.ref a0, .int x1, .int x2] (n := 7) (Nat.le_of_ble_eq_true rfl)
  rw [lg_entry_eq]
  generalize (lg_sl [.ref a0, .int x1, .int x2] ++ List.replicate (7 - (lg_sl [.ref a0, .int x1, .int x2]).length) Slot.unset).toArray = ls at hl ⊢
  have hl : lv_has ls 7 [(0, .ref a0), (1, .int x1), (2, .int x2)] := hl
  refine ti_gen (P := fun H => TI D vwCl (tysOf c0) (RTg ν) Y H) (Y := Y) (ws := [10, 29, 30, 40, 41, 42]) hT (fun H locs hT hS => ?_)
  refine lv_aload_n hx hb dX10_mixed_0 rfl (lv_at hl 0 rfl) ?_
  refine lv_iload_n hx hb dX10_mixed_1 rfl (lv_at hl 1 rfl) ?_
  refine lv_iload_n hx hb dX10_mixed_2 rfl (lv_at hl 2 rfl) ?_
  refine ti_calli (va_runV (As := [.int x1, .int x2]) (rest := []) ⟨hx, hb, hml, hown, hts⟩ (t_X10_areTwo l hT ha0 (iv_w hx1 (by decide)) (iv_w hx2 (by decide)) hU) (cwV 2 hts (good_V kw_545 kw_546 kw_547 kw_5 kw_548) rfl rfl rfl (by decide +kernel) ⟨by rw [hR]; decide, by rw [hR]; decide⟩) (ti_preV hK hT ha0 rfl rfl) rfl rfl hl.1 rfl (lv_room (Nat.le_of_ble_eq_true rfl)) dX10_mixed_3 ⟨Nat.zero_le _, Nat.zero_le _⟩) hS (pW_sub rfl) (fun v3 H1 locs hB hS _ hk3 => ?_)
  obtain ⟨hH, hv3, hp3⟩ := hB
  rw [hH] at hS ⊢
  refine lv_if_ne (tgt := 12) hx hb dX10_mixed_6 (by decide) (fun c6 => ?_) (fun c6 => ?_)
  · skip
    have kl0 : (0 : Int32).toInt = 0 := by decide
    have f6 := i_ne c6
    have hv3_6l : iv v3 1 1 := iv_nel hv3 (iv_c (x := (0 : Int32)) (k := 0) (by decide)) c6 (by decide)
    have hx1_6p : iv x1 0 7 := by have b0a := (hx1).1; have b0b := (hx1).2; exact ⟨by omega, by omega⟩
    have hx2_6p : iv x2 0 7 := by have b0a := (hx2).1; have b0b := (hx2).2; exact ⟨by omega, by omega⟩
    refine lv_aload_n hx hb dX10_mixed_12 rfl (lv_at hl 0 rfl) ?_
    refine lv_iload_n hx hb dX10_mixed_13 rfl (lv_at hl 1 rfl) ?_
    refine lv_iload_n hx hb dX10_mixed_14 rfl (lv_at hl 2 rfl) ?_
    refine ti_callv (va_runV (As := [.int x1, .int x2]) (rest := []) ⟨hx, hb, hml, hown, hts⟩ (t_X10_duels l hT ha0 (iv_w hx1_6p (by decide)) (iv_w hx2_6p (by decide)) hν3 hν5 hU) (cwV 2 hts (good_V kw_1476 kw_1477 kw_1478 kw_5 kw_1479) rfl rfl rfl (by decide +kernel) ⟨by rw [hR]; decide, by rw [hR]; decide⟩) (ti_preV hK hT ha0 rfl rfl) rfl rfl hl.1 rfl (lv_room (Nat.le_of_ble_eq_true rfl)) dX10_mixed_15 ⟨Nat.zero_le _, Nat.zero_le _⟩) hS (pW_sub rfl) (fun H locs hB hS _ hk15 => ?_)
    have hT := hB
    refine lv_aload_n hx hb dX10_mixed_18 rfl (lv_at hl 0 rfl) ?_
    refine ti_getr hx hb hts inlX10 hown hK hT ha0 rfl rfl rfl 33 (by decide) (hts _ kw_150) (fun _ h9 => h9) rfl dX10_mixed_19 (fun v19 hv19 hm19 => ?_)
    refine lv_iconst (v := 2) hx hb dX10_mixed_22 (by decide) ?_
    refine ti_iald (lo := (-2147483648)) (hi := 2147483647) hx hb (aT0 hK) hT hv19 rfl (iv_c (x := (2 : Int32)) (k := 2) (by decide)) (by decide) (fun _ _ _ => ⟨_, _, rfl, by decide, by decide⟩) dX10_mixed_23 (fun v23 hv23 hm23 => ?_)
    refine lv_aload_n hx hb dX10_mixed_24 rfl (lv_at hl 0 rfl) ?_
    refine ti_getE (ci := 10) (v := .ref v19) hx hb hts inlX10 hown hK hm19 rfl (by decide) (hts _ kw_150) (fun _ h9 => h9) dX10_mixed_25 ?_
    refine lv_iconst (v := 0) hx hb dX10_mixed_28 (by decide) ?_
    refine ti_iald (lo := (-2147483648)) (hi := 2147483647) hx hb (aT0 hK) hT hv19 rfl (iv_c (x := (0 : Int32)) (k := 0) (by decide)) (by decide) (fun _ _ _ => ⟨_, _, rfl, by decide, by decide⟩) dX10_mixed_29 (fun v29 hv29 hm29 => ?_)
    refine lv_isub hx hb dX10_mixed_30 ?_
    refine lv_topi (fun v30 e30 => ?_)
    have hv30 : iv v30 (-2147483648) 2147483647 := iv_top _
    refine lv_i2l hx hb dX10_mixed_31 rfl ?_
    refine lv_topl (fun v31 e31 => ?_)
    have hv31 : jv v31 (-2147483648) 2147483647 := by rw [e31]; exact jv_i hv30
    have t31 : v31.toInt = v30.toInt := by rw [e31]; exact jv_e _
    refine lv_lstore_n (lv' := [(3, .long v31), (0, .ref a0), (1, .int x1), (2, .int x2)]) hx hb dX10_mixed_32 rfl hl (by decide) rfl (fun ls hl => ?_)
    refine lv_lload_n hx hb dX10_mixed_33 rfl (lv_at hl 0 rfl) ?_
    refine lv_aload_n hx hb dX10_mixed_34 rfl (lv_at hl 1 rfl) ?_
    refine ti_getE (ci := 10) (v := .ref v19) hx hb hts inlX10 hown hK hm19 rfl (by decide) (hts _ kw_150) (fun _ h9 => h9) dX10_mixed_35 ?_
    refine lv_iconst (v := 3) hx hb dX10_mixed_38 (by decide) ?_
    refine ti_iald (lo := (-2147483648)) (hi := 2147483647) hx hb (aT0 hK) hT hv19 rfl (iv_c (x := (3 : Int32)) (k := 3) (by decide)) (by decide) (fun _ _ _ => ⟨_, _, rfl, by decide, by decide⟩) dX10_mixed_39 (fun v39 hv39 hm39 => ?_)
    refine lv_aload_n hx hb dX10_mixed_40 rfl (lv_at hl 1 rfl) ?_
    refine ti_getE (ci := 10) (v := .ref v19) hx hb hts inlX10 hown hK hm19 rfl (by decide) (hts _ kw_150) (fun _ h9 => h9) dX10_mixed_41 ?_
    refine lv_iconst (v := 1) hx hb dX10_mixed_44 (by decide) ?_
    refine ti_iald (lo := (-2147483648)) (hi := 2147483647) hx hb (aT0 hK) hT hv19 rfl (iv_c (x := (1 : Int32)) (k := 1) (by decide)) (by decide) (fun _ _ _ => ⟨_, _, rfl, by decide, by decide⟩) dX10_mixed_45 (fun v45 hv45 hm45 => ?_)
    refine lv_isub hx hb dX10_mixed_46 ?_
    refine lv_topi (fun v46 e46 => ?_)
    have hv46 : iv v46 (-2147483648) 2147483647 := iv_top _
    refine lv_i2l hx hb dX10_mixed_47 rfl ?_
    refine lv_topl (fun v47 e47 => ?_)
    have hv47 : jv v47 (-2147483648) 2147483647 := by rw [e47]; exact jv_i hv46
    have t47 : v47.toInt = v46.toInt := by rw [e47]; exact jv_e _
    refine lv_lsub hx hb dX10_mixed_48 ?_
    refine lv_topl (fun v48 e48 => ?_)
    have s48 : v48.toInt = v31.toInt - v47.toInt := by rw [e48]; exact jv_subE hv31 hv47 (by decide)
    have hv48 : jv v48 (-4294967295) 4294967295 := by have b0a := (hv31).1; have b0b := (hv31).2; have b1a := (hv47).1; have b1b := (hv47).2; exact ⟨by omega, by omega⟩
    refine lv_lstore (lv' := [(5, .long v48), (3, .long v31), (0, .ref a0), (1, .int x1), (2, .int x2)]) hx hb dX10_mixed_49 hl (by decide) rfl (fun ls hl => ?_)
    refine lv_lload hx hb dX10_mixed_51 (lv_at hl 0 rfl) ?_
    refine lv_lconst (v := 0) hx hb dX10_mixed_53 (by decide) ?_
    have kj0 : (0 : Int64).toInt = 0 := by decide
    refine W.lcmp hx hb dX10_mixed_54 ?_
    have J66 : ∀ (j66_L3 : Int64) (j66_L5 : Int64) (H : Heap) (locs : List Loc) (ls : Array Slot), jv j66_L3 (-9223372036854775808) 9223372036854775807 → jv j66_L5 (-9223372036854775808) 9223372036854775807 → TI D vwCl (tysOf c0) (RTg ν) Y H → va_S (pW Y [10, 29, 30, 40, 41, 42]) s.heap H locs → lv_has ls 7 [(0, .ref a0), (1, .int x1), (2, .int x2), (3, .long j66_L3), (5, .long j66_L5)] → W p l e R s m ([.ref a0, .int x1, .int x2] : List Value).toArray below meth c H locs 0 0 Q (F0 m 66 ls []) := by
      intro j66_L3 j66_L5 H locs ls hj66_L3 hj66_L5 hT hS hl
      refine lv_lload hx hb dX10_mixed_66 (lv_at hl 4 rfl) ?_
      refine lv_lconst (v := 0) hx hb dX10_mixed_68 (by decide) ?_
      refine W.lcmp hx hb dX10_mixed_69 ?_
      have J86 : ∀  (H : Heap) (locs : List Loc) (ls : Array Slot), TI D vwCl (tysOf c0) (RTg ν) Y H → va_S (pW Y [10, 29, 30, 40, 41, 42]) s.heap H locs → lv_has ls 7 [(0, .ref a0), (1, .int x1), (2, .int x2), (3, .long j66_L3), (5, .long j66_L5)] → W p l e R s m ([.ref a0, .int x1, .int x2] : List Value).toArray below meth c H locs 0 0 Q (F0 m 86 ls []) := by
        intro  H locs ls  hT hS hl
        refine lv_iconst (v := (-1)) hx hb dX10_mixed_86 (by decide) ?_
        refine lv_goto (tgt := 99) hx hb dX10_mixed_87 (by decide) ?_
        exact ret _ _ _ _ _ dX10_mixed_99 (hT) hS
      refine lv_if_eq (tgt := 86) hx hb dX10_mixed_70 (by decide) (fun c70 => ?_) (fun c70 => ?_)
      · skip
        have f70 := jc_eq c70
        have hj66_L5_70a : jv j66_L5 0 0 := by have b0a := (hj66_L5).1; have b0b := (hj66_L5).2; have b1a := ((jv_c (x := (0 : Int64)) (k := 0) (by decide))).1; have b1b := ((jv_c (x := (0 : Int64)) (k := 0) (by decide))).2; exact ⟨by omega, by omega⟩
        exact J86  _ _ _   hT hS (lv_sub hl [0, 1, 2, 3, 4] rfl)
      · skip
        have f70 := jc_ne c70
        refine lv_lload_n hx hb dX10_mixed_73 rfl (lv_at hl 3 rfl) ?_
        refine lv_lconst (v := 0) hx hb dX10_mixed_74 (by decide) ?_
        refine W.lcmp hx hb dX10_mixed_75 ?_
        refine lv_if_lt (tgt := 86) hx hb dX10_mixed_76 (by decide) (fun c76 => ?_) (fun c76 => ?_)
        · skip
          have f76 := jc_lt c76
          have hj66_L3_76a : jv j66_L3 (-9223372036854775808) (-1) := by have b0a := (hj66_L3).1; have b0b := (hj66_L3).2; have b1a := ((jv_c (x := (0 : Int64)) (k := 0) (by decide))).1; have b1b := ((jv_c (x := (0 : Int64)) (k := 0) (by decide))).2; exact ⟨by omega, by omega⟩
          exact J86  _ _ _   hT hS (lv_sub hl [0, 1, 2, 3, 4] rfl)
        · skip
          have f76 := jc_nlt c76
          have hj66_L3_76a : jv j66_L3 0 9223372036854775807 := by have b0a := (hj66_L3).1; have b0b := (hj66_L3).2; have b1a := ((jv_c (x := (0 : Int64)) (k := 0) (by decide))).1; have b1b := ((jv_c (x := (0 : Int64)) (k := 0) (by decide))).2; exact ⟨by omega, by omega⟩
          refine lv_lload_n hx hb dX10_mixed_79 rfl (lv_at hl 3 rfl) ?_
          refine lv_lload hx hb dX10_mixed_80 (lv_at hl 4 rfl) ?_
          refine W.lcmp hx hb dX10_mixed_82 ?_
          refine lv_if_le (tgt := 90) hx hb dX10_mixed_83 (by decide) (fun c83 => ?_) (fun c83 => ?_)
          · skip
            have f83 := jc_le c83
            have hj66_L5_83b : jv j66_L5 0 9223372036854775807 := by have b0a := (hj66_L3_76a).1; have b0b := (hj66_L3_76a).2; have b1a := (hj66_L5).1; have b1b := (hj66_L5).2; exact ⟨by omega, by omega⟩
            refine lv_ldc2 (v := 10000) hx hb hown (hts _ kw_1488) dX10_mixed_90 ?_
            have kj10000 : (10000 : Int64).toInt = 10000 := by decide
            refine lv_lload_n hx hb dX10_mixed_93 rfl (lv_at hl 3 rfl) ?_
            refine lv_lmul hx hb dX10_mixed_94 ?_
            refine lv_topl (fun v94 e94 => ?_)
            refine lv_lload hx hb dX10_mixed_95 (lv_at hl 4 rfl) ?_
            refine lv_ldiv hx hb dX10_mixed_97 (jnz f70) ?_
            refine lv_topl (fun v97 e97 => ?_)
            refine lv_l2i hx hb dX10_mixed_98 rfl ?_
            refine lv_topi (fun v98 e98 => ?_)
            have hv98 : iv v98 (-2147483648) 2147483647 := iv_top _
            exact ret _ _ _ _ _ dX10_mixed_99 (hT) hS
          · skip
            have f83 := jc_nle c83
            have hj66_L5_83b : jv j66_L5 (-9223372036854775808) 9223372036854775806 := by have b0a := (hj66_L3_76a).1; have b0b := (hj66_L3_76a).2; have b1a := (hj66_L5).1; have b1b := (hj66_L5).2; exact ⟨by omega, by omega⟩
            exact J86  _ _ _   hT hS (lv_sub hl [0, 1, 2, 3, 4] rfl)
    refine lv_if_ge (tgt := 66) hx hb dX10_mixed_55 (by decide) (fun c55 => ?_) (fun c55 => ?_)
    · skip
      have f55 := jc_ge c55
      have hv48_55a : jv v48 0 4294967295 := by have b0a := (hv48).1; have b0b := (hv48).2; have b1a := ((jv_c (x := (0 : Int64)) (k := 0) (by decide))).1; have b1b := ((jv_c (x := (0 : Int64)) (k := 0) (by decide))).2; exact ⟨by omega, by omega⟩
      exact J66 v31 v48 _ _ _  (jv_w hv31 (by decide)) (jv_w hv48_55a (by decide)) hT hS (lv_sub hl [2, 3, 4, 1, 0] rfl)
    · skip
      have f55 := jc_nge c55
      have hv48_55a : jv v48 (-4294967295) (-1) := by have b0a := (hv48).1; have b0b := (hv48).2; have b1a := ((jv_c (x := (0 : Int64)) (k := 0) (by decide))).1; have b1b := ((jv_c (x := (0 : Int64)) (k := 0) (by decide))).2; exact ⟨by omega, by omega⟩
      have hq55_19 : iv v30 (-2147483648) 2147483646 := by have b0a := (hv48_55a).1; have b0b := (hv48_55a).2; have b1a := (hv30).1; have b1b := (hv30).2; have b2a := (hv46).1; have b2b := (hv46).2; exact ⟨by omega, by omega⟩
      have hq55_20 : iv v46 (-2147483647) 2147483647 := by have b0a := (hv48_55a).1; have b0b := (hv48_55a).2; have b1a := (hq55_19).1; have b1b := (hq55_19).2; have b2a := (hv46).1; have b2b := (hv46).2; exact ⟨by omega, by omega⟩
      refine lv_lload_n hx hb dX10_mixed_58 rfl (lv_at hl 1 rfl) ?_
      refine lv_lneg hx hb dX10_mixed_59 ?_
      refine lv_topl (fun v59 e59 => ?_)
      refine lv_lstore_n (lv' := [(3, .long v59), (5, .long v48), (0, .ref a0), (1, .int x1), (2, .int x2)]) hx hb dX10_mixed_60 rfl hl (by decide) rfl (fun ls hl => ?_)
      refine lv_lload hx hb dX10_mixed_61 (lv_at hl 1 rfl) ?_
      refine lv_lneg hx hb dX10_mixed_63 ?_
      refine lv_topl (fun v63 e63 => ?_)
      refine lv_lstore (lv' := [(5, .long v63), (3, .long v59), (0, .ref a0), (1, .int x1), (2, .int x2)]) hx hb dX10_mixed_64 hl (by decide) rfl (fun ls hl => ?_)
      exact J66 v59 v63 _ _ _  (jv_w (jv_top v59) (by decide)) (jv_w (jv_top v63) (by decide)) hT hS (lv_sub hl [2, 3, 4, 1, 0] rfl)
  · skip
    have kl0 : (0 : Int32).toInt = 0 := by decide
    have f6 := i_eq c6
    have hv3_6l : iv v3 0 0 := iv_eql hv3 (iv_c (x := (0 : Int32)) (k := 0) (by decide)) c6 (by decide)
    refine lv_bipush (v := (-2)) hx hb dX10_mixed_9 (by decide) ?_
    exact ret _ _ _ _ _ dX10_mixed_11 (hT) hS
set_option maxHeartbeats 4000000 in
set_option maxRecDepth 100000 in
theorem t_X10_seed (l : Launch) {D : va_G} {c0 : Nat → ClassId} {Y : Nat → Option Nat} {ν : Nat → Nat} {H : Heap} (hT : TI D vwCl (tysOf c0) (RTg ν) Y H) {a0 : Nat} (ha0 : Y a0 = some 10) {x1 : Int32} (hx1 : iv x1 (-2147483648) 2147483647) (hU : uq Y) : Met l yX10_seed (wz yX10_seed cX10_seed 2 (some .int)) { frames := 1, cells := 0, slots := 0, locals := 25 } (TP D vwCl (tysOf c0) H [.ref a0, .int x1]) (TQi (fun x H' => TI D vwCl (tysOf c0) (RTg ν) Y H' ∧ iv x (-2) 0) Y [10]) 0 0 (pW Y [10]) := by
  refine Met.ofW (cc := cX10_seed) (maxL := 2) (ret := (some .int)) (by decide) rfl ?_
  intro p e s m args below meth c s₁ B hml hv
  obtain ⟨rfl, rfl, hK⟩ := hv
  have hx := B.exec
  have hb := B.bytes
  have hr := B.returns
  have hts : ∀ w ∈ wq, w.before _ s = true := fun w h => atoms_spec (ws := wz yX10_seed cX10_seed 2 (some .int)) B.pre w (List.mem_cons_of_mem _ h)
  have hown : s.vm.findClass RX10 = some m.cls := findClass_of_methodNamed B.named
  have hlocks := B.notSynchronized
  obtain ⟨R, hR⟩ : ∃ R : Room, R = ({ frames := 1, cells := 0, slots := 0, locals := 25 } : Room) := ⟨_, rfl⟩
  rw [show (headSpec (wz yX10_seed cX10_seed 2 (some .int)) { frames := 1, cells := 0, slots := 0, locals := 25 }).room = R from hR.symm]
  refine ti_mi hx hb hr hlocks (fun Q ret => ?_)
  have hl := lv_entry [.ref a0, .int x1] (n := 2) (Nat.le_of_ble_eq_true rfl)
  rw [lg_entry_eq]
  generalize (lg_sl [.ref a0, .int x1] ++ List.replicate (2 - (lg_sl [.ref a0, .int x1]).length) Slot.unset).toArray = ls at hl ⊢
  have hl : lv_has ls 2 [(0, .ref a0), (1, .int x1)] := hl
  refine ti_gen (P := fun H => TI D vwCl (tysOf c0) (RTg ν) Y H) (Y := Y) (ws := [10]) hT (fun H locs hT hS => ?_)
  refine lv_iload_n hx hb dX10_seed_0 rfl (lv_at hl 1 rfl) ?_
  refine lv_i2l hx hb dX10_seed_1 rfl ?_
  refine lv_topl (fun v1 e1 => ?_)
  have hv1 : jv v1 (-2147483648) 2147483647 := by rw [e1]; exact jv_i hx1
  have t1 : v1.toInt = x1.toInt := by rw [e1]; exact jv_e _
  refine lv_lconst (v := 0) hx hb dX10_seed_2 (by decide) ?_
  have kj0 : (0 : Int64).toInt = 0 := by decide
  refine lv_ldc2 (v := 2000000000) hx hb hown (hts _ kw_1499) dX10_seed_3 ?_
  have kj2000000000 : (2000000000 : Int64).toInt = 2000000000 := by decide
  refine ti_calli (va_runS (As := [.long v1, .long (0 : Int64), .long (2000000000 : Int64)]) (rest := []) ⟨hx, hb, hml, hown, hts⟩ (t_X10_in l hT (jv_w hv1 (by decide)) (jv_w (jv_c (x := (0 : Int64)) (k := 0) (by decide)) (by decide)) (jv_w (jv_c (x := (2000000000 : Int64)) (k := 2000000000) (by decide)) (by decide))) (cwS 3 hts (good_S kw_181 kw_182 kw_5 kw_183) rfl rfl rfl (by decide +kernel) ⟨by rw [hR]; decide, by rw [hR]; decide⟩) (ti_preS hK) rfl rfl hl.1 rfl (lv_room (Nat.le_of_ble_eq_true rfl)) dX10_seed_6 ⟨Nat.zero_le _, Nat.zero_le _⟩) hS (pW_sub rfl) (fun v6 H1 locs hB hS _ hk6 => ?_)
  obtain ⟨hH, hv6, hp6⟩ := hB
  rw [hH] at hS ⊢
  refine lv_if_ne (tgt := 15) hx hb dX10_seed_9 (by decide) (fun c9 => ?_) (fun c9 => ?_)
  · skip
    have kl0 : (0 : Int32).toInt = 0 := by decide
    have f9 := i_ne c9
    have hv6_9l : iv v6 1 1 := iv_nel hv6 (iv_c (x := (0 : Int32)) (k := 0) (by decide)) c9 (by decide)
    have hv1_9p : jv v1 0 2000000000 := by have b0a := (hv1).1; have b0b := (hv1).2; have b1a := ((jv_c (x := (0 : Int64)) (k := 0) (by decide))).1; have b1b := ((jv_c (x := (0 : Int64)) (k := 0) (by decide))).2; have b2a := ((jv_c (x := (2000000000 : Int64)) (k := 2000000000) (by decide))).1; have b2b := ((jv_c (x := (2000000000 : Int64)) (k := 2000000000) (by decide))).2; exact ⟨by omega, by omega⟩
    have hx1_9p : iv x1 0 2000000000 := by have := t1; have b0a := (hv1_9p).1; have b0b := (hv1_9p).2; have b1a := (hx1).1; have b1b := (hx1).2; exact ⟨by omega, by omega⟩
    refine lv_aload_n hx hb dX10_seed_15 rfl (lv_at hl 0 rfl) ?_
    refine lv_iload_n hx hb dX10_seed_16 rfl (lv_at hl 1 rfl) ?_
    refine lv_i2l hx hb dX10_seed_17 rfl ?_
    refine lv_topl (fun v17 e17 => ?_)
    have hv17 : jv v17 0 2000000000 := by rw [e17]; exact jv_i hx1_9p
    have t17 : v17.toInt = x1.toInt := by rw [e17]; exact jv_e _
    refine ti_put (ty := .long) hx hb hts inlX10 tyX10 tyX10_ok nmX10 hown hK hT hS ha0 rfl rfl rfl rfl 16 (by decide) (hts _ kw_382) (fun _ h9 => h9) rfl rfl (by decide +kernel) rfl rfl ⟨v17, rfl⟩ (fun _ _ => trivial) dX10_seed_18 (fun H locs hT hS oq18 he18 hk18 => ?_)
    refine lv_iconst (v := 0) hx hb dX10_seed_21 (by decide) ?_
    exact ret _ _ _ _ _ dX10_seed_22 (⟨hT, iv_w (iv_c (x := (0 : Int32)) (k := 0) (by decide)) (by decide)⟩) hS
  · skip
    have kl0 : (0 : Int32).toInt = 0 := by decide
    have f9 := i_eq c9
    have hv6_9l : iv v6 0 0 := iv_eql hv6 (iv_c (x := (0 : Int32)) (k := 0) (by decide)) c9 (by decide)
    refine lv_bipush (v := (-2)) hx hb dX10_seed_12 (by decide) ?_
    exact ret _ _ _ _ _ dX10_seed_14 (⟨hT, iv_w (iv_c (x := (-2 : Int32)) (k := (-2)) (by decide)) (by decide)⟩) hS
set_option maxHeartbeats 4000000 in
set_option maxRecDepth 100000 in
theorem t_X10_count (l : Launch) {D : va_G} {c0 : Nat → ClassId} {Y : Nat → Option Nat} {ν : Nat → Nat} {H : Heap} (hT : TI D vwCl (tysOf c0) (RTg ν) Y H) {a0 : Nat} (ha0 : Y a0 = some 10) {x1 : Int32} (hx1 : iv x1 (-2147483648) 2147483647) (hνb : ∀ j, j < 4 → ν (6 + j) ≤ 61) (hU : uq Y) : Met l yX10_count (wz yX10_count cX10_count 4 (some .int)) { frames := 0, cells := 0, slots := 0, locals := 0 } (TP D vwCl (tysOf c0) H [.ref a0, .int x1]) (TQi (fun x H' => H' = H) Y []) 0 0 (pW Y []) := by
  refine Met.ofW (cc := cX10_count) (maxL := 4) (ret := (some .int)) (by decide) rfl ?_
  intro p e s m args below meth c s₁ B hml hv
  obtain ⟨rfl, rfl, hK⟩ := hv
  have hx := B.exec
  have hb := B.bytes
  have hr := B.returns
  have hts : ∀ w ∈ wq, w.before _ s = true := fun w h => atoms_spec (ws := wz yX10_count cX10_count 4 (some .int)) B.pre w (List.mem_cons_of_mem _ h)
  have hown : s.vm.findClass RX10 = some m.cls := findClass_of_methodNamed B.named
  have hlocks := B.notSynchronized
  obtain ⟨R, hR⟩ : ∃ R : Room, R = ({ frames := 0, cells := 0, slots := 0, locals := 0 } : Room) := ⟨_, rfl⟩
  rw [show (headSpec (wz yX10_count cX10_count 4 (some .int)) { frames := 0, cells := 0, slots := 0, locals := 0 }).room = R from hR.symm]
  refine ti_mi hx hb hr hlocks (fun Q ret => ?_)
  have hl := lv_entry [.ref a0, .int x1] (n := 4) (Nat.le_of_ble_eq_true rfl)
  rw [lg_entry_eq]
  generalize (lg_sl [.ref a0, .int x1] ++ List.replicate (4 - (lg_sl [.ref a0, .int x1]).length) Slot.unset).toArray = ls at hl ⊢
  have hl : lv_has ls 4 [(0, .ref a0), (1, .int x1)] := hl
  have hS : va_S (pW Y []) s.heap s.heap [] := va_S.rf
  refine lv_iconst (v := 0) hx hb dX10_count_0 (by decide) ?_
  refine lv_istore_n (lv' := [(2, .int (0 : Int32)), (0, .ref a0), (1, .int x1)]) hx hb dX10_count_1 rfl hl (by decide) rfl (fun ls hl => ?_)
  refine lv_iload_n hx hb dX10_count_2 rfl (lv_at hl 2 rfl) ?_
  by_cases c3_0 : x1.toInt = 0
  · skip
    refine lv_tableIn (off := 65) (tgt := 68) hx hb dX10_count_3 (by omega) (by omega) (by rw [c3_0]; rfl) (by decide) ?_
    have hx1_3 : iv x1 0 0 := iv_c c3_0
    refine lv_aload_n hx hb dX10_count_68 rfl (lv_at hl 1 rfl) ?_
    refine ti_getr hx hb hts inlX10 hown hK hT ha0 rfl rfl rfl 1 (by decide) (hts _ kw_130) (fun _ h9 => h9) rfl dX10_count_69 (fun v69 hv69 hm69 => ?_)
    refine lv_iconst (v := 1) hx hb dX10_count_72 (by decide) ?_
    refine ti_iald (lo := (-2147483648)) (hi := 100000) hx hb (aT0 hK) hT hv69 rfl (iv_c (x := (1 : Int32)) (k := 1) (by decide)) (by decide) (one_j 1 rfl rfl (by decide) (by decide)) dX10_count_73 (fun v73 hv73 hm73 => ?_)
    exact ret _ _ _ _ _ dX10_count_74 (rfl) hS
  by_cases c3_1 : x1.toInt = 1
  · skip
    refine lv_tableIn (off := 72) (tgt := 75) hx hb dX10_count_3 (by omega) (by omega) (by rw [c3_1]; rfl) (by decide) ?_
    have hx1_3 : iv x1 1 1 := iv_c c3_1
    refine lv_aload_n hx hb dX10_count_75 rfl (lv_at hl 1 rfl) ?_
    refine ti_getr hx hb hts inlX10 hown hK hT ha0 rfl rfl rfl 1 (by decide) (hts _ kw_130) (fun _ h9 => h9) rfl dX10_count_76 (fun v76 hv76 hm76 => ?_)
    refine lv_bipush (v := 7) hx hb dX10_count_79 (by decide) ?_
    refine ti_iald (lo := 0) (hi := 8) hx hb (aT0 hK) hT hv76 rfl (iv_c (x := (7 : Int32)) (k := 7) (by decide)) (by decide) (one_j 7 rfl rfl (by decide) (by decide)) dX10_count_81 (fun v81 hv81 hm81 => ?_)
    exact ret _ _ _ _ _ dX10_count_82 (rfl) hS
  by_cases c3_2 : x1.toInt = 2
  · skip
    refine lv_tableIn (off := 80) (tgt := 83) hx hb dX10_count_3 (by omega) (by omega) (by rw [c3_2]; rfl) (by decide) ?_
    have hx1_3 : iv x1 2 2 := iv_c c3_2
    refine lv_aload_n hx hb dX10_count_83 rfl (lv_at hl 1 rfl) ?_
    refine ti_getr hx hb hts inlX10 hown hK hT ha0 rfl rfl rfl 1 (by decide) (hts _ kw_130) (fun _ h9 => h9) rfl dX10_count_84 (fun v84 hv84 hm84 => ?_)
    refine lv_iconst (v := 0) hx hb dX10_count_87 (by decide) ?_
    refine ti_iald (lo := (-2147483648)) (hi := 2147483647) hx hb (aT0 hK) hT hv84 rfl (iv_c (x := (0 : Int32)) (k := 0) (by decide)) (by decide) (one_j 0 rfl rfl (by decide) (by decide)) dX10_count_88 (fun v88 hv88 hm88 => ?_)
    exact ret _ _ _ _ _ dX10_count_89 (rfl) hS
  by_cases c3_3 : x1.toInt = 3
  · skip
    refine lv_tableIn (off := 87) (tgt := 90) hx hb dX10_count_3 (by omega) (by omega) (by rw [c3_3]; rfl) (by decide) ?_
    have hx1_3 : iv x1 3 3 := iv_c c3_3
    refine lv_aload_n hx hb dX10_count_90 rfl (lv_at hl 1 rfl) ?_
    refine ti_geti hx hb hts inlX10 hown hK hT ha0 rfl rfl rfl 6 (by decide) (hts _ kw_172) (fun _ h9 => h9) rfl dX10_count_91 (fun v91 hv91 hm91 => ?_)
    exact ret _ _ _ _ _ dX10_count_94 (rfl) hS
  by_cases c3_4 : x1.toInt = 4
  · skip
    refine lv_tableIn (off := 92) (tgt := 95) hx hb dX10_count_3 (by omega) (by omega) (by rw [c3_4]; rfl) (by decide) ?_
    have hx1_3 : iv x1 4 4 := iv_c c3_4
    refine lv_aload_n hx hb dX10_count_95 rfl (lv_at hl 1 rfl) ?_
    refine ti_getr hx hb hts inlX10 hown hK hT ha0 rfl rfl rfl 1 (by decide) (hts _ kw_130) (fun _ h9 => h9) rfl dX10_count_96 (fun v96 hv96 hm96 => ?_)
    refine lv_bipush (v := 10) hx hb dX10_count_99 (by decide) ?_
    refine ti_iald (lo := (-2147483648)) (hi := 2147483647) hx hb (aT0 hK) hT hv96 rfl (iv_c (x := (10 : Int32)) (k := 10) (by decide)) (by decide) (one_j 10 rfl rfl (by decide) (by decide)) dX10_count_101 (fun v101 hv101 hm101 => ?_)
    exact ret _ _ _ _ _ dX10_count_102 (rfl) hS
  by_cases c3_5 : x1.toInt = 5
  · skip
    refine lv_tableIn (off := 100) (tgt := 103) hx hb dX10_count_3 (by omega) (by omega) (by rw [c3_5]; rfl) (by decide) ?_
    have hx1_3 : iv x1 5 5 := iv_c c3_5
    refine lv_aload_n hx hb dX10_count_103 rfl (lv_at hl 1 rfl) ?_
    refine ti_getr hx hb hts inlX10 hown hK hT ha0 rfl rfl rfl 1 (by decide) (hts _ kw_130) (fun _ h9 => h9) rfl dX10_count_104 (fun v104 hv104 hm104 => ?_)
    refine lv_bipush (v := 9) hx hb dX10_count_107 (by decide) ?_
    refine ti_iald (lo := 0) (hi := 6) hx hb (aT0 hK) hT hv104 rfl (iv_c (x := (9 : Int32)) (k := 9) (by decide)) (by decide) (one_j 9 rfl rfl (by decide) (by decide)) dX10_count_109 (fun v109 hv109 hm109 => ?_)
    exact ret _ _ _ _ _ dX10_count_110 (rfl) hS
  by_cases c3_6 : x1.toInt = 6
  · skip
    refine lv_tableIn (off := 108) (tgt := 111) hx hb dX10_count_3 (by omega) (by omega) (by rw [c3_6]; rfl) (by decide) ?_
    have hx1_3 : iv x1 6 6 := iv_c c3_6
    refine lv_aload_n hx hb dX10_count_111 rfl (lv_at hl 1 rfl) ?_
    refine ti_getr hx hb hts inlX10 hown hK hT ha0 rfl rfl rfl 1 (by decide) (hts _ kw_130) (fun _ h9 => h9) rfl dX10_count_112 (fun v112 hv112 hm112 => ?_)
    refine lv_bipush (v := 11) hx hb dX10_count_115 (by decide) ?_
    refine ti_iald (lo := (-2147483648)) (hi := 2147483647) hx hb (aT0 hK) hT hv112 rfl (iv_c (x := (11 : Int32)) (k := 11) (by decide)) (by decide) (one_j 11 rfl rfl (by decide) (by decide)) dX10_count_117 (fun v117 hv117 hm117 => ?_)
    exact ret _ _ _ _ _ dX10_count_118 (rfl) hS
  by_cases c3_7 : x1.toInt = 7
  · skip
    refine lv_tableIn (off := 116) (tgt := 119) hx hb dX10_count_3 (by omega) (by omega) (by rw [c3_7]; rfl) (by decide) ?_
    have hx1_3 : iv x1 7 7 := iv_c c3_7
    refine lv_aload_n hx hb dX10_count_119 rfl (lv_at hl 1 rfl) ?_
    refine ti_getr hx hb hts inlX10 hown hK hT ha0 rfl rfl rfl 1 (by decide) (hts _ kw_130) (fun _ h9 => h9) rfl dX10_count_120 (fun v120 hv120 hm120 => ?_)
    refine lv_iconst (v := 2) hx hb dX10_count_123 (by decide) ?_
    refine ti_iald (lo := (-2147483648)) (hi := 2147483647) hx hb (aT0 hK) hT hv120 rfl (iv_c (x := (2 : Int32)) (k := 2) (by decide)) (by decide) (one_j 2 rfl rfl (by decide) (by decide)) dX10_count_124 (fun v124 hv124 hm124 => ?_)
    exact ret _ _ _ _ _ dX10_count_125 (rfl) hS
  by_cases c3_8 : x1.toInt = 8
  · skip
    refine lv_tableIn (off := 123) (tgt := 126) hx hb dX10_count_3 (by omega) (by omega) (by rw [c3_8]; rfl) (by decide) ?_
    have hx1_3 : iv x1 8 8 := iv_c c3_8
    refine lv_aload_n hx hb dX10_count_126 rfl (lv_at hl 1 rfl) ?_
    refine ti_getr hx hb hts inlX10 hown hK hT ha0 rfl rfl rfl 1 (by decide) (hts _ kw_130) (fun _ h9 => h9) rfl dX10_count_127 (fun v127 hv127 hm127 => ?_)
    refine lv_iconst (v := 3) hx hb dX10_count_130 (by decide) ?_
    refine ti_iald (lo := (-2147483648)) (hi := 2147483647) hx hb (aT0 hK) hT hv127 rfl (iv_c (x := (3 : Int32)) (k := 3) (by decide)) (by decide) (one_j 3 rfl rfl (by decide) (by decide)) dX10_count_131 (fun v131 hv131 hm131 => ?_)
    exact ret _ _ _ _ _ dX10_count_132 (rfl) hS
  by_cases c3_9 : x1.toInt = 9
  · skip
    refine lv_tableIn (off := 130) (tgt := 133) hx hb dX10_count_3 (by omega) (by omega) (by rw [c3_9]; rfl) (by decide) ?_
    have hx1_3 : iv x1 9 9 := iv_c c3_9
    refine lv_aload_n hx hb dX10_count_133 rfl (lv_at hl 1 rfl) ?_
    refine ti_getr hx hb hts inlX10 hown hK hT ha0 rfl rfl rfl 1 (by decide) (hts _ kw_130) (fun _ h9 => h9) rfl dX10_count_134 (fun v134 hv134 hm134 => ?_)
    refine lv_iconst (v := 4) hx hb dX10_count_137 (by decide) ?_
    refine ti_iald (lo := (-2147483648)) (hi := 2147483647) hx hb (aT0 hK) hT hv134 rfl (iv_c (x := (4 : Int32)) (k := 4) (by decide)) (by decide) (one_j 4 rfl rfl (by decide) (by decide)) dX10_count_138 (fun v138 hv138 hm138 => ?_)
    exact ret _ _ _ _ _ dX10_count_139 (rfl) hS
  by_cases c3_10 : x1.toInt = 10
  · skip
    refine lv_tableIn (off := 137) (tgt := 140) hx hb dX10_count_3 (by omega) (by omega) (by rw [c3_10]; rfl) (by decide) ?_
    have hx1_3 : iv x1 10 10 := iv_c c3_10
    refine lv_aload_n hx hb dX10_count_140 rfl (lv_at hl 1 rfl) ?_
    refine ti_getr hx hb hts inlX10 hown hK hT ha0 rfl rfl rfl 1 (by decide) (hts _ kw_130) (fun _ h9 => h9) rfl dX10_count_141 (fun v141 hv141 hm141 => ?_)
    refine lv_iconst (v := 5) hx hb dX10_count_144 (by decide) ?_
    refine ti_iald (lo := (-2147483648)) (hi := 2147483647) hx hb (aT0 hK) hT hv141 rfl (iv_c (x := (5 : Int32)) (k := 5) (by decide)) (by decide) (one_j 5 rfl rfl (by decide) (by decide)) dX10_count_145 (fun v145 hv145 hm145 => ?_)
    exact ret _ _ _ _ _ dX10_count_146 (rfl) hS
  by_cases c3_11 : x1.toInt = 11
  · skip
    refine lv_tableIn (off := 144) (tgt := 147) hx hb dX10_count_3 (by omega) (by omega) (by rw [c3_11]; rfl) (by decide) ?_
    have hx1_3 : iv x1 11 11 := iv_c c3_11
    refine lv_aload_n hx hb dX10_count_147 rfl (lv_at hl 1 rfl) ?_
    refine ti_getr hx hb hts inlX10 hown hK hT ha0 rfl rfl rfl 1 (by decide) (hts _ kw_130) (fun _ h9 => h9) rfl dX10_count_148 (fun v148 hv148 hm148 => ?_)
    refine lv_bipush (v := 6) hx hb dX10_count_151 (by decide) ?_
    refine ti_iald (lo := (-2147483648)) (hi := 2147483647) hx hb (aT0 hK) hT hv148 rfl (iv_c (x := (6 : Int32)) (k := 6) (by decide)) (by decide) (one_j 6 rfl rfl (by decide) (by decide)) dX10_count_153 (fun v153 hv153 hm153 => ?_)
    exact ret _ _ _ _ _ dX10_count_154 (rfl) hS
  by_cases c3_12 : x1.toInt = 12
  · skip
    refine lv_tableIn (off := 152) (tgt := 155) hx hb dX10_count_3 (by omega) (by omega) (by rw [c3_12]; rfl) (by decide) ?_
    have hx1_3 : iv x1 12 12 := iv_c c3_12
    refine lv_iconst (v := 0) hx hb dX10_count_155 (by decide) ?_
    have J157 : ∀ (n : Nat) (j157_L2 : Int32) (j157_L3 : Int32) (locs : List Loc) (ls : Array Slot), (4 - j157_L3.toInt).toNat < n → iv j157_L2 (-2147483648) 2147483647 → iv j157_L3 0 4 → va_S (pW Y []) s.heap s.heap locs → lv_has ls 4 [(0, .ref a0), (1, .int x1), (2, .int j157_L2), (3, .int j157_L3)] → W p l e R s m ([.ref a0, .int x1] : List Value).toArray below meth c s.heap locs 0 0 Q (F0 m 157 ls []) := by
      intro n
      induction n with
      | zero => intro j157_L2 j157_L3 locs ls hms; exact absurd hms (Nat.not_lt_zero _)
      | succ n ih157 =>
        intro j157_L2 j157_L3 locs ls hms157 hj157_L2 hj157_L3 hS hl
        refine lv_iload_n hx hb dX10_count_157 rfl (lv_at hl 3 rfl) ?_
        refine lv_iconst (v := 4) hx hb dX10_count_158 (by decide) ?_
        refine lv_icmp_ge (tgt := 186) hx hb dX10_count_159 (by decide) (fun c159 => ?_) (fun c159 => ?_)
        · skip
          have kl4 : (4 : Int32).toInt = 4 := by decide
          have f159 := i_le c159
          have hj157_L3_159r : iv j157_L3 4 4 := iv_ler (iv_c (x := (4 : Int32)) (k := 4) (by decide)) hj157_L3 c159 (by decide)
          refine lv_iload_n hx hb dX10_count_186 rfl (lv_at hl 2 rfl) ?_
          exact ret _ _ _ _ _ dX10_count_187 (rfl) hS
        · skip
          have kl4 : (4 : Int32).toInt = 4 := by decide
          have f159 := i_nle c159
          have hj157_L3_159l : iv j157_L3 0 3 := iv_ltl hj157_L3 (iv_c (x := (4 : Int32)) (k := 4) (by decide)) (Int32.not_le.mp c159) (by decide)
          refine lv_iload_n hx hb dX10_count_162 rfl (lv_at hl 2 rfl) ?_
          refine lv_aload_n hx hb dX10_count_163 rfl (lv_at hl 0 rfl) ?_
          refine ti_getr hx hb hts inlX10 hown hK hT ha0 rfl rfl rfl 34 (by decide) (hts _ kw_151) (fun _ h9 => h9) rfl dX10_count_164 (fun v164 hv164 hm164 => ?_)
          refine lv_iload_n hx hb dX10_count_167 rfl (lv_at hl 3 rfl) ?_
          refine ti_ialdD hx hb (aT0 hK) hT hv164 rfl hj157_L3_159l (by decide) (fun j => ⟨_, _, rfl⟩) dX10_count_168 (fun v168 hz168 _ => ?_)
          have s168 : v168.toInt = (ν (6 + j157_L3.toNatClampNeg) : Int) - 1 := many_e hz168
          have hv168 : iv v168 (-1) 60 := many_iv hνb s168 hj157_L3_159l (by decide)
          refine lv_iconst (v := (-1)) hx hb dX10_count_169 (by decide) ?_
          have J178 : ∀ (j178_S1 : Int32) (locs : List Loc) (ls : Array Slot), iv j178_S1 0 1 → va_S (pW Y []) s.heap s.heap locs → lv_has ls 4 [(0, .ref a0), (1, .int x1), (2, .int j157_L2), (3, .int j157_L3)] → W p l e R s m ([.ref a0, .int x1] : List Value).toArray below meth c s.heap locs 0 0 Q (F0 m 178 ls [.int j178_S1, .int j157_L2]) := by
            intro j178_S1 locs ls hj178_S1 hS hl
            refine lv_iadd hx hb dX10_count_178 ?_
            refine lv_topi (fun v178 e178 => ?_)
            have hv178 : iv v178 (-2147483648) 2147483647 := iv_top _
            refine lv_istore_n (lv' := [(2, .int v178), (0, .ref a0), (1, .int x1), (3, .int j157_L3)]) hx hb dX10_count_179 rfl hl (by decide) rfl (fun ls hl => ?_)
            obtain ⟨v180, e180⟩ : ∃ y : Int32, y = j157_L3 + 1 := ⟨_, rfl⟩
            have hv180 : iv v180 1 4 := by rw [e180]; exact iv_w (iv_add hj157_L3_159l (iv_c (x := (1 : Int32)) (k := 1) (by decide)) (by decide)) (by decide)
            have s180 : v180.toInt = j157_L3.toInt + 1 := by rw [e180, iv_addE hj157_L3_159l (iv_c (x := (1 : Int32)) (k := 1) (by decide)) (by decide)]; rfl
            refine lv_iinc (v := v180) (lv' := [(3, .int v180), (2, .int v178), (0, .ref a0), (1, .int x1)]) hx hb dX10_count_180 hl (k := 3) rfl (by rw [e180]; rfl) (by decide) rfl (fun ls hl => ?_)
            refine lv_goto (tgt := 157) hx hb dX10_count_183 (by decide) ?_
            exact ih157 v178 v180 _ _ (ms_up hms157 (by have := s180; omega) (iv_w (c := 1) (d := 4) hv180 (by decide)).2) (iv_w hv178 (by decide)) (iv_w hv180 (by decide))  hS (lv_sub hl [2, 3, 1, 0] rfl)
          refine lv_icmp_ne (tgt := 177) hx hb dX10_count_170 (by decide) (fun c170 => ?_) (fun c170 => ?_)
          · skip
            have klm1 : (-1 : Int32).toInt = (-1) := by decide
            have f170 := i_ne c170
            have hv168_170l : iv v168 0 60 := iv_nel hv168 (iv_c (x := (-1 : Int32)) (k := (-1)) (by decide)) c170 (by decide)
            refine lv_iconst (v := 1) hx hb dX10_count_177 (by decide) ?_
            exact J178 (1 : Int32) _ _  (iv_w (iv_c (x := (1 : Int32)) (k := 1) (by decide)) (by decide))  hS (lv_sub hl [0, 1, 2, 3] rfl)
          · skip
            have klm1 : (-1 : Int32).toInt = (-1) := by decide
            have f170 := i_eq c170
            have hv168_170l : iv v168 (-1) (-1) := iv_eql hv168 (iv_c (x := (-1 : Int32)) (k := (-1)) (by decide)) c170 (by decide)
            refine lv_iconst (v := 0) hx hb dX10_count_173 (by decide) ?_
            refine lv_goto (tgt := 178) hx hb dX10_count_174 (by decide) ?_
            exact J178 (0 : Int32) _ _  (iv_w (iv_c (x := (0 : Int32)) (k := 0) (by decide)) (by decide))  hS (lv_sub hl [0, 1, 2, 3] rfl)
    refine lv_istore_n (lv' := [(3, .int (0 : Int32)), (2, .int (0 : Int32)), (0, .ref a0), (1, .int x1)]) hx hb dX10_count_156 rfl hl (by decide) rfl (fun ls hl => ?_)
    exact J157 _ (0 : Int32) (0 : Int32) _ _ (Nat.lt_succ_self _) (iv_w (iv_c (x := (0 : Int32)) (k := 0) (by decide)) (by decide)) (iv_w (iv_c (x := (0 : Int32)) (k := 0) (by decide)) (by decide))  hS (lv_sub hl [2, 3, 1, 0] rfl)
  refine lv_tableOut (tgt := 188) hx hb dX10_count_3 (by have b0a := (hx1).1; have b0b := (hx1).2; omega) (by decide) ?_
  refine lv_iconst (v := (-1)) hx hb dX10_count_188 (by decide) ?_
  exact ret _ _ _ _ _ dX10_count_189 (rfl) hS
set_option maxHeartbeats 4000000 in
set_option maxRecDepth 100000 in
theorem t_X10_cut (l : Launch) {D : va_G} {c0 : Nat → ClassId} {Y : Nat → Option Nat} {ν : Nat → Nat} {H : Heap} (hT : TI D vwCl (tysOf c0) (RTg ν) Y H) {x0 : Int64} (hx0 : jv x0 (-9223372036854775808) 9223372036854775807) {x1 : Int32} (hx1 : iv x1 0 3) : Met l yX10_cut (wz yX10_cut cX10_cut 4 (some .long)) { frames := 0, cells := 0, slots := 0, locals := 0 } (TP D vwCl (tysOf c0) H [.long x0, .int x1]) (TQl (fun x H' => H' = H) Y []) 0 0 (pW Y []) := by
  refine Met.ofW (cc := cX10_cut) (maxL := 4) (ret := (some .long)) (by decide) rfl ?_
  intro p e s m args below meth c s₁ B hml hv
  obtain ⟨rfl, rfl, hK⟩ := hv
  have hx := B.exec
  have hb := B.bytes
  have hr := B.returns
  have hts : ∀ w ∈ wq, w.before _ s = true := fun w h => atoms_spec (ws := wz yX10_cut cX10_cut 4 (some .long)) B.pre w (List.mem_cons_of_mem _ h)
  have hown : s.vm.findClass RX10 = some m.cls := findClass_of_methodNamed B.named
  have hlocks := B.notSynchronized
  obtain ⟨R, hR⟩ : ∃ R : Room, R = ({ frames := 0, cells := 0, slots := 0, locals := 0 } : Room) := ⟨_, rfl⟩
  rw [show (headSpec (wz yX10_cut cX10_cut 4 (some .long)) { frames := 0, cells := 0, slots := 0, locals := 0 }).room = R from hR.symm]
  refine ti_ml hx hb hr hlocks (fun Q ret => ?_)
  have hl := lv_entry [.long x0, .int x1] (n := 4) (Nat.le_of_ble_eq_true rfl)
  rw [lg_entry_eq]
  generalize (lg_sl [.long x0, .int x1] ++ List.replicate (4 - (lg_sl [.long x0, .int x1]).length) Slot.unset).toArray = ls at hl ⊢
  have hl : lv_has ls 4 [(0, .long x0), (2, .int x1)] := hl
  have hS : va_S (pW Y []) s.heap s.heap [] := va_S.rf
  refine lv_bipush (v := 64) hx hb dX10_cut_0 (by decide) ?_
  refine lv_bipush (v := 8) hx hb dX10_cut_2 (by decide) ?_
  refine lv_iload_n hx hb dX10_cut_4 rfl (lv_at hl 1 rfl) ?_
  refine lv_ishl hx hb dX10_cut_5 ?_
  refine lv_topi (fun v5 e5 => ?_)
  have hv5 : iv v5 (-2147483648) 2147483647 := iv_top _
  refine lv_isub hx hb dX10_cut_6 ?_
  refine lv_topi (fun v6 e6 => ?_)
  have hv6 : iv v6 (-2147483648) 2147483647 := iv_top _
  refine lv_istore_n (lv' := [(3, .int v6), (0, .long x0), (2, .int x1)]) hx hb dX10_cut_7 rfl hl (by decide) rfl (fun ls hl => ?_)
  refine lv_lload_n hx hb dX10_cut_8 rfl (lv_at hl 1 rfl) ?_
  refine lv_iload_n hx hb dX10_cut_9 rfl (lv_at hl 0 rfl) ?_
  refine lv_lshl hx hb dX10_cut_10 rfl ?_
  refine lv_topl (fun v10 e10 => ?_)
  refine lv_iload_n hx hb dX10_cut_11 rfl (lv_at hl 0 rfl) ?_
  refine lv_lshr hx hb dX10_cut_12 rfl ?_
  refine lv_topl (fun v12 e12 => ?_)
  exact ret _ _ _ _ _ dX10_cut_13 (rfl) hS
set_option maxHeartbeats 4000000 in
set_option maxRecDepth 100000 in
theorem t_X10_row (l : Launch) {D : va_G} {c0 : Nat → ClassId} {Y : Nat → Option Nat} {ν : Nat → Nat} {H : Heap} (hT : TI D vwCl (tysOf c0) (RTg ν) Y H) {a0 : Nat} (ha0 : Y a0 = some 10) {x1 : Int32} (hx1 : iv x1 (-2147483648) 2147483647) {x2 : Int32} (hx2 : iv x2 (-2147483648) 2147483647) {x3 : Int32} (hx3 : iv x3 (-2147483648) 2147483647) (hνb : ∀ j, j < 4 → ν (6 + j) ≤ 61) (hU : uq Y) : Met l yX10_row (wz yX10_row cX10_row 5 (some .int)) { frames := 2, cells := 0, slots := 0, locals := 45 } (TP D vwCl (tysOf c0) H [.ref a0, .int x1, .int x2, .int x3]) (TQi (fun x H' => (∃ ν' : Nat → Nat, (∀ j, j < 6 → ν' j = ν j) ∧ (∀ j, j < 4 → ν' (6 + j) ≤ 61) ∧ TI D vwCl (tysOf c0) (RTg ν') Y H') ∧ iv x (-3) 0) Y [37, 38, 39]) 0 0 (pW Y [37, 38, 39]) := by
  refine Met.ofW (cc := cX10_row) (maxL := 5) (ret := (some .int)) (by decide) rfl ?_
  intro p e s m args below meth c s₁ B hml hv
  obtain ⟨rfl, rfl, hK⟩ := hv
  have hx := B.exec
  have hb := B.bytes
  have hr := B.returns
  have hts : ∀ w ∈ wq, w.before _ s = true := fun w h => atoms_spec (ws := wz yX10_row cX10_row 5 (some .int)) B.pre w (List.mem_cons_of_mem _ h)
  have hown : s.vm.findClass RX10 = some m.cls := findClass_of_methodNamed B.named
  have hlocks := B.notSynchronized
  obtain ⟨R, hR⟩ : ∃ R : Room, R = ({ frames := 2, cells := 0, slots := 0, locals := 45 } : Room) := ⟨_, rfl⟩
  rw [show (headSpec (wz yX10_row cX10_row 5 (some .int)) { frames := 2, cells := 0, slots := 0, locals := 45 }).room = R from hR.symm]
  refine ti_mi hx hb hr hlocks (fun Q ret => ?_)
  have hl := lv_entry [.ref a0, .int x1, .int x2, .int x3] (n := 5) (Nat.le_of_ble_eq_true rfl)
  rw [lg_entry_eq]
  generalize (lg_sl [.ref a0, .int x1, .int x2, .int x3] ++ List.replicate (5 - (lg_sl [.ref a0, .int x1, .int x2, .int x3]).length) Slot.unset).toArray = ls at hl ⊢
  have hl : lv_has ls 5 [(0, .ref a0), (1, .int x1), (2, .int x2), (3, .int x3)] := hl
  refine ti_gen (P := fun H => TI D vwCl (tysOf c0) (RTg ν) Y H) (Y := Y) (ws := [37, 38, 39]) hT (fun H locs hT hS => ?_)
  refine lv_iload_n hx hb dX10_row_0 rfl (lv_at hl 1 rfl) ?_
  refine ti_calli (va_runS (As := [.int x1]) (rest := []) ⟨hx, hb, hml, hown, hts⟩ (t_X10_isSlot l hT (iv_w hx1 (by decide))) (cwS 1 hts (good_S kw_816 kw_817 kw_5 kw_818) rfl rfl rfl (by decide +kernel) ⟨by rw [hR]; decide, by rw [hR]; decide⟩) (ti_preS hK) rfl rfl hl.1 rfl (lv_room (Nat.le_of_ble_eq_true rfl)) dX10_row_1 ⟨Nat.zero_le _, Nat.zero_le _⟩) hS (pW_sub rfl) (fun v1 H1 locs hB hS _ hk1 => ?_)
  obtain ⟨hH, hv1, hp1⟩ := hB
  rw [hH] at hS ⊢
  refine lv_if_eq (tgt := 25) hx hb dX10_row_4 (by decide) (fun c4 => ?_) (fun c4 => ?_)
  · skip
    have kl0 : (0 : Int32).toInt = 0 := by decide
    have f4 := i_eq c4
    have hv1_4l : iv v1 0 0 := iv_eql hv1 (iv_c (x := (0 : Int32)) (k := 0) (by decide)) c4 (by decide)
    refine lv_bipush (v := (-2)) hx hb dX10_row_25 (by decide) ?_
    exact ret _ _ _ _ _ dX10_row_27 (⟨⟨ν, fun _ _ => rfl, hνb, hT⟩, iv_w (iv_c (x := (-2 : Int32)) (k := (-2)) (by decide)) (by decide)⟩) hS
  · skip
    have kl0 : (0 : Int32).toInt = 0 := by decide
    have f4 := i_ne c4
    have hv1_4l : iv v1 1 1 := iv_nel hv1 (iv_c (x := (0 : Int32)) (k := 0) (by decide)) c4 (by decide)
    have hx1_4p : iv x1 0 3 := by have b0a := (hx1).1; have b0b := (hx1).2; exact ⟨by omega, by omega⟩
    refine lv_iload_n hx hb dX10_row_7 rfl (lv_at hl 2 rfl) ?_
    refine lv_i2l hx hb dX10_row_8 rfl ?_
    refine lv_topl (fun v8 e8 => ?_)
    have hv8 : jv v8 (-2147483648) 2147483647 := by rw [e8]; exact jv_i hx2
    have t8 : v8.toInt = x2.toInt := by rw [e8]; exact jv_e _
    refine lv_lconst (v := 0) hx hb dX10_row_9 (by decide) ?_
    have kj0 : (0 : Int64).toInt = 0 := by decide
    refine lv_ldc2 (v := 3) hx hb hown (hts _ kw_485) dX10_row_10 ?_
    have kj3 : (3 : Int64).toInt = 3 := by decide
    refine ti_calli (va_runS (As := [.long v8, .long (0 : Int64), .long (3 : Int64)]) (rest := []) ⟨hx, hb, hml, hown, hts⟩ (t_X10_in l hT (jv_w hv8 (by decide)) (jv_w (jv_c (x := (0 : Int64)) (k := 0) (by decide)) (by decide)) (jv_w (jv_c (x := (3 : Int64)) (k := 3) (by decide)) (by decide))) (cwS 3 hts (good_S kw_181 kw_182 kw_5 kw_183) rfl rfl rfl (by decide +kernel) ⟨by rw [hR]; decide, by rw [hR]; decide⟩) (ti_preS hK) rfl rfl hl.1 rfl (lv_room (Nat.le_of_ble_eq_true rfl)) dX10_row_13 ⟨Nat.zero_le _, Nat.zero_le _⟩) hS (pW_sub rfl) (fun v13 H1 locs hB hS _ hk13 => ?_)
    obtain ⟨hH, hv13, hp13⟩ := hB
    rw [hH] at hS ⊢
    refine lv_if_eq (tgt := 25) hx hb dX10_row_16 (by decide) (fun c16 => ?_) (fun c16 => ?_)
    · skip
      have f16 := i_eq c16
      have hv13_16l : iv v13 0 0 := iv_eql hv13 (iv_c (x := (0 : Int32)) (k := 0) (by decide)) c16 (by decide)
      refine lv_bipush (v := (-2)) hx hb dX10_row_25 (by decide) ?_
      exact ret _ _ _ _ _ dX10_row_27 (⟨⟨ν, fun _ _ => rfl, hνb, hT⟩, iv_w (iv_c (x := (-2 : Int32)) (k := (-2)) (by decide)) (by decide)⟩) hS
    · skip
      have f16 := i_ne c16
      have hv13_16l : iv v13 1 1 := iv_nel hv13 (iv_c (x := (0 : Int32)) (k := 0) (by decide)) c16 (by decide)
      have hv8_16p : jv v8 0 3 := by have b0a := (hv8).1; have b0b := (hv8).2; have b1a := ((jv_c (x := (0 : Int64)) (k := 0) (by decide))).1; have b1b := ((jv_c (x := (0 : Int64)) (k := 0) (by decide))).2; have b2a := ((jv_c (x := (3 : Int64)) (k := 3) (by decide))).1; have b2b := ((jv_c (x := (3 : Int64)) (k := 3) (by decide))).2; exact ⟨by omega, by omega⟩
      have hx2_16p : iv x2 0 3 := by have := t8; have b0a := (hv8_16p).1; have b0b := (hv8_16p).2; have b1a := (hx2).1; have b1b := (hx2).2; exact ⟨by omega, by omega⟩
      refine lv_iload_n hx hb dX10_row_19 rfl (lv_at hl 3 rfl) ?_
      refine lv_bipush (v := 60) hx hb dX10_row_20 (by decide) ?_
      refine lv_icmp_le (tgt := 28) hx hb dX10_row_22 (by decide) (fun c22 => ?_) (fun c22 => ?_)
      · skip
        have kl60 : (60 : Int32).toInt = 60 := by decide
        have f22 := i_le c22
        have hx3_22l : iv x3 (-2147483648) 60 := iv_lel hx3 (iv_c (x := (60 : Int32)) (k := 60) (by decide)) c22 (by decide)
        refine lv_iload_n hx hb dX10_row_28 rfl (lv_at hl 3 rfl) ?_
        refine lv_if_ge (tgt := 35) hx hb dX10_row_29 (by decide) (fun c29 => ?_) (fun c29 => ?_)
        · skip
          have f29 := i_le c29
          have hx3_29r : iv x3 0 60 := iv_ler (iv_c (x := (0 : Int32)) (k := 0) (by decide)) hx3_22l c29 (by decide)
          refine lv_aload_n hx hb dX10_row_35 rfl (lv_at hl 0 rfl) ?_
          refine ti_getr hx hb hts inlX10 hown hK hT ha0 rfl rfl rfl 34 (by decide) (hts _ kw_151) (fun _ h9 => h9) rfl dX10_row_36 (fun v36 hv36 hm36 => ?_)
          refine lv_iload_n hx hb dX10_row_39 rfl (lv_at hl 1 rfl) ?_
          refine lv_iload_n hx hb dX10_row_40 rfl (lv_at hl 3 rfl) ?_
          refine xast hx hb (aT0 hK) hT hS hv36 rfl rfl hx1_4p (by decide) dX10_row_41 (fun cA ty f H locs hc hf _ he hS ob => ?_)
          have hT := row_put (n := x3.toNatClampNeg + 1) hU hT hv36 (by have b0a := (hx1_4p).1; have b0b := (hx1_4p).2; have b1a := (hx2_16p).1; have b1b := (hx2_16p).2; have b2a := (hx3_29r).1; have b2b := (hx3_29r).2; have b3a := (hv1_4l).1; have b3b := (hv1_4l).2; have b4a := (hv8_16p).1; have b4b := (hv8_16p).2; have b5a := (hv13_16l).1; have b5b := (hv13_16l).2; show x1.toInt.toNat < 4; omega) hc hf (by have b0a := (hx1_4p).1; have b0b := (hx1_4p).2; have b1a := (hx2_16p).1; have b1b := (hx2_16p).2; have b2a := (hx3_29r).1; have b2b := (hx3_29r).2; have b3a := (hv1_4l).1; have b3b := (hv1_4l).2; have b4a := (hv8_16p).1; have b4b := (hv8_16p).2; have b5a := (hv13_16l).1; have b5b := (hv13_16l).2; show x3.toInt = ((x3.toInt.toNat + 1 : Nat) : Int) - 1; omega) he ob
          refine lv_aload_n hx hb dX10_row_42 rfl (lv_at hl 0 rfl) ?_
          refine ti_getr hx hb hts inlX10 hown hK hT ha0 rfl rfl rfl 35 (by decide) (hts _ kw_152) (fun _ h9 => h9) rfl dX10_row_43 (fun v43 hv43 hm43 => ?_)
          refine lv_iload_n hx hb dX10_row_46 rfl (lv_at hl 1 rfl) ?_
          refine lv_iload_n hx hb dX10_row_47 rfl (lv_at hl 2 rfl) ?_
          refine ti_iast hx hb (aT0 hK) hT hS hv43 rfl rfl hx1_4p (by decide) (fun _ _ _ => ⟨_, _, rfl, by decide, by decide⟩) hx2_16p (fun _ _ => trivial) dX10_row_48 (fun H locs hT hS oq48 he48 hk48 => ?_)
          refine lv_iconst (v := 0) hx hb dX10_row_49 (by decide) ?_
          have J52 : ∀ (n : Nat) (j52_L4 : Int32) (H : Heap) (locs : List Loc) (ls : Array Slot), (60 - j52_L4.toInt).toNat < n → iv j52_L4 0 60 → TI D vwCl (tysOf c0) (RTg (νk ν (6 + x1.toNatClampNeg) (x3.toNatClampNeg + 1))) Y H → va_S (pW Y [37, 38, 39]) s.heap H locs → lv_has ls 5 [(0, .ref a0), (1, .int x1), (2, .int x2), (3, .int x3), (4, .int j52_L4)] → W p l e R s m ([.ref a0, .int x1, .int x2, .int x3] : List Value).toArray below meth c H locs 0 0 Q (F0 m 52 ls []) := by
            intro n
            induction n with
            | zero => intro j52_L4 H locs ls hms; exact absurd hms (Nat.not_lt_zero _)
            | succ n ih52 =>
              intro j52_L4 H locs ls hms52 hj52_L4 hT hS hl
              refine lv_iload hx hb dX10_row_52 (lv_at hl 4 rfl) ?_
              refine lv_bipush (v := 60) hx hb dX10_row_54 (by decide) ?_
              refine lv_icmp_ge (tgt := 78) hx hb dX10_row_56 (by decide) (fun c56 => ?_) (fun c56 => ?_)
              · skip
                have f56 := i_le c56
                have hj52_L4_56r : iv j52_L4 60 60 := iv_ler (iv_c (x := (60 : Int32)) (k := 60) (by decide)) hj52_L4 c56 (by decide)
                refine lv_iconst (v := 0) hx hb dX10_row_78 (by decide) ?_
                exact ret _ _ _ _ _ dX10_row_79 (⟨⟨_, fun j h9 => by show (if j = 6 + x1.toNatClampNeg then _ else ν j) = ν j; rw [if_neg (by omega)], fun j h9 => by show (if 6 + j = 6 + x1.toNatClampNeg then x3.toNatClampNeg + 1 else ν (6 + j)) ≤ 61; by_cases q9 : 6 + j = 6 + x1.toNatClampNeg; (rw [if_pos q9]; have b0a := (hx1_4p).1; have b0b := (hx1_4p).2; have b1a := (hx2_16p).1; have b1b := (hx2_16p).2; have b2a := (hx3_29r).1; have b2b := (hx3_29r).2; have b3a := (hv1_4l).1; have b3b := (hv1_4l).2; have b4a := (hv8_16p).1; have b4b := (hv8_16p).2; have b5a := (hv13_16l).1; have b5b := (hv13_16l).2; have b6a := (hj52_L4_56r).1; have b6b := (hj52_L4_56r).2; show x3.toInt.toNat + 1 ≤ 61; omega); (rw [if_neg q9]; exact hνb j h9), hT⟩, iv_w (iv_c (x := (0 : Int32)) (k := 0) (by decide)) (by decide)⟩) hS
              · skip
                have f56 := i_nle c56
                have hj52_L4_56l : iv j52_L4 0 59 := iv_ltl hj52_L4 (iv_c (x := (60 : Int32)) (k := 60) (by decide)) (Int32.not_le.mp c56) (by decide)
                refine lv_aload_n hx hb dX10_row_59 rfl (lv_at hl 0 rfl) ?_
                refine ti_getr hx hb hts inlX10 hown hK hT ha0 rfl rfl rfl 36 (by decide) (hts _ kw_153) (fun _ h9 => h9) rfl dX10_row_60 (fun v60 hv60 hm60 => ?_)
                refine lv_bipush (v := 60) hx hb dX10_row_63 (by decide) ?_
                refine lv_iload_n hx hb dX10_row_65 rfl (lv_at hl 1 rfl) ?_
                refine lv_imul hx hb dX10_row_66 ?_
                refine lv_topi (fun v66 e66 => ?_)
                have hv66 : iv v66 0 180 := by rw [e66]; exact iv_mul (iv_c (x := (60 : Int32)) (k := 60) (by decide)) hx1_4p (by decide)
                have s66 : v66.toInt = (60 : Int32).toInt * x1.toInt := by rw [e66]; exact iv_mulE (iv_c (x := (60 : Int32)) (k := 60) (by decide)) hx1_4p (by decide)
                have s66 : v66.toInt = 60 * x1.toInt := by rw [s66]; simp only [show (60 : Int32).toInt = 60 from by decide]; try omega
                refine lv_iload hx hb dX10_row_67 (lv_at hl 4 rfl) ?_
                refine lv_iadd hx hb dX10_row_69 ?_
                refine lv_topi (fun v69 e69 => ?_)
                have hv69 : iv v69 0 239 := by rw [e69]; exact iv_w (iv_add hv66 hj52_L4_56l (by decide)) (by decide)
                have s69 : v69.toInt = v66.toInt + j52_L4.toInt := by rw [e69]; exact iv_addE hv66 hj52_L4_56l (by decide)
                refine lv_lconst (v := 0) hx hb dX10_row_70 (by decide) ?_
                refine ti_last hx hb (aT3 hK) hT hS hv60 rfl rfl hv69 (by decide) (fun _ _ _ => rfl)  (fun _ _ => trivial) dX10_row_71 (fun H locs hT hS oq71 he71 hk71 => ?_)
                obtain ⟨v72, e72⟩ : ∃ y : Int32, y = j52_L4 + 1 := ⟨_, rfl⟩
                have hv72 : iv v72 1 60 := by rw [e72]; exact iv_w (iv_add hj52_L4_56l (iv_c (x := (1 : Int32)) (k := 1) (by decide)) (by decide)) (by decide)
                have s72 : v72.toInt = j52_L4.toInt + 1 := by rw [e72, iv_addE hj52_L4_56l (iv_c (x := (1 : Int32)) (k := 1) (by decide)) (by decide)]; rfl
                refine lv_iinc (v := v72) (lv' := [(4, .int v72), (0, .ref a0), (1, .int x1), (2, .int x2), (3, .int x3)]) hx hb dX10_row_72 hl (k := 4) rfl (by rw [e72]; rfl) (by decide) rfl (fun ls hl => ?_)
                refine lv_goto (tgt := 52) hx hb dX10_row_75 (by decide) ?_
                exact ih52 v72 _ _ _ (ms_up hms52 (by have := s72; omega) (iv_w (c := 1) (d := 60) hv72 (by decide)).2) (iv_w hv72 (by decide)) hT hS (lv_sub hl [1, 2, 3, 4, 0] rfl)
          refine lv_istore (lv' := [(4, .int (0 : Int32)), (0, .ref a0), (1, .int x1), (2, .int x2), (3, .int x3)]) hx hb dX10_row_50 hl (by decide) rfl (fun ls hl => ?_)
          exact J52 _ (0 : Int32) _ _ _ (Nat.lt_succ_self _) (iv_w (iv_c (x := (0 : Int32)) (k := 0) (by decide)) (by decide)) hT hS (lv_sub hl [1, 2, 3, 4, 0] rfl)
        · skip
          have f29 := i_nle c29
          have hx3_29l : iv x3 (-2147483648) (-1) := iv_ltl hx3_22l (iv_c (x := (0 : Int32)) (k := 0) (by decide)) (Int32.not_le.mp c29) (by decide)
          refine lv_bipush (v := (-3)) hx hb dX10_row_32 (by decide) ?_
          exact ret _ _ _ _ _ dX10_row_34 (⟨⟨ν, fun _ _ => rfl, hνb, hT⟩, iv_w (iv_c (x := (-3 : Int32)) (k := (-3)) (by decide)) (by decide)⟩) hS
      · skip
        have kl60 : (60 : Int32).toInt = 60 := by decide
        have f22 := i_nle c22
        have hx3_22r : iv x3 61 2147483647 := iv_ltr (iv_c (x := (60 : Int32)) (k := 60) (by decide)) hx3 (Int32.not_le.mp c22) (by decide)
        refine lv_bipush (v := (-2)) hx hb dX10_row_25 (by decide) ?_
        exact ret _ _ _ _ _ dX10_row_27 (⟨⟨ν, fun _ _ => rfl, hνb, hT⟩, iv_w (iv_c (x := (-2 : Int32)) (k := (-2)) (by decide)) (by decide)⟩) hS
set_option maxHeartbeats 4000000 in
set_option maxRecDepth 100000 in
theorem t_X10_write (l : Launch) {D : va_G} {c0 : Nat → ClassId} {Y : Nat → Option Nat} {ν : Nat → Nat} {H : Heap} (hT : TI D vwCl (tysOf c0) (RTg ν) Y H) {a0 : Nat} (ha0 : Y a0 = some 10) {x1 : Int32} (hx1 : iv x1 (-2147483648) 2147483647) {x2 : Int32} (hx2 : iv x2 (-2147483648) 2147483647) {x3 : Int64} (hx3 : jv x3 (-9223372036854775808) 9223372036854775807) (hνb : ∀ j, j < 4 → ν (6 + j) ≤ 61) (hU : uq Y) : Met l yX10_write (wz yX10_write cX10_write 5 (some .int)) { frames := 2, cells := 0, slots := 0, locals := 45 } (TP D vwCl (tysOf c0) H [.ref a0, .int x1, .int x2, .long x3]) (TQi (fun x H' => TI D vwCl (tysOf c0) (RTg ν) Y H' ∧ iv x (-7) 0) Y [39]) 0 0 (pW Y [39]) := by
  refine Met.ofW (cc := cX10_write) (maxL := 5) (ret := (some .int)) (by decide) rfl ?_
  intro p e s m args below meth c s₁ B hml hv
  obtain ⟨rfl, rfl, hK⟩ := hv
  have hx := B.exec
  have hb := B.bytes
  have hr := B.returns
  have hts : ∀ w ∈ wq, w.before _ s = true := fun w h => atoms_spec (ws := wz yX10_write cX10_write 5 (some .int)) B.pre w (List.mem_cons_of_mem _ h)
  have hown : s.vm.findClass RX10 = some m.cls := findClass_of_methodNamed B.named
  have hlocks := B.notSynchronized
  obtain ⟨R, hR⟩ : ∃ R : Room, R = ({ frames := 2, cells := 0, slots := 0, locals := 45 } : Room) := ⟨_, rfl⟩
  rw [show (headSpec (wz yX10_write cX10_write 5 (some .int)) { frames := 2, cells := 0, slots := 0, locals := 45 }).room = R from hR.symm]
  refine ti_mi hx hb hr hlocks (fun Q ret => ?_)
  have hl := lv_entry [.ref a0, .int x1, .int x2, .long x3] (n := 5) (Nat.le_of_ble_eq_true rfl)
  rw [lg_entry_eq]
  generalize (lg_sl [.ref a0, .int x1, .int x2, .long x3] ++ List.replicate (5 - (lg_sl [.ref a0, .int x1, .int x2, .long x3]).length) Slot.unset).toArray = ls at hl ⊢
  have hl : lv_has ls 5 [(0, .ref a0), (1, .int x1), (2, .int x2), (3, .long x3)] := hl
  refine ti_gen (P := fun H => TI D vwCl (tysOf c0) (RTg ν) Y H) (Y := Y) (ws := [39]) hT (fun H locs hT hS => ?_)
  refine lv_iload_n hx hb dX10_write_0 rfl (lv_at hl 1 rfl) ?_
  refine ti_calli (va_runS (As := [.int x1]) (rest := []) ⟨hx, hb, hml, hown, hts⟩ (t_X10_isSlot l hT (iv_w hx1 (by decide))) (cwS 1 hts (good_S kw_816 kw_817 kw_5 kw_818) rfl rfl rfl (by decide +kernel) ⟨by rw [hR]; decide, by rw [hR]; decide⟩) (ti_preS hK) rfl rfl hl.1 rfl (lv_room (Nat.le_of_ble_eq_true rfl)) dX10_write_1 ⟨Nat.zero_le _, Nat.zero_le _⟩) hS (pW_sub rfl) (fun v1 H1 locs hB hS _ hk1 => ?_)
  obtain ⟨hH, hv1, hp1⟩ := hB
  rw [hH] at hS ⊢
  refine lv_if_ne (tgt := 10) hx hb dX10_write_4 (by decide) (fun c4 => ?_) (fun c4 => ?_)
  · skip
    have kl0 : (0 : Int32).toInt = 0 := by decide
    have f4 := i_ne c4
    have hv1_4l : iv v1 1 1 := iv_nel hv1 (iv_c (x := (0 : Int32)) (k := 0) (by decide)) c4 (by decide)
    have hx1_4p : iv x1 0 3 := by have b0a := (hx1).1; have b0b := (hx1).2; exact ⟨by omega, by omega⟩
    refine lv_aload_n hx hb dX10_write_10 rfl (lv_at hl 0 rfl) ?_
    refine ti_getr hx hb hts inlX10 hown hK hT ha0 rfl rfl rfl 34 (by decide) (hts _ kw_151) (fun _ h9 => h9) rfl dX10_write_11 (fun v11 hv11 hm11 => ?_)
    refine lv_iload_n hx hb dX10_write_14 rfl (lv_at hl 1 rfl) ?_
    refine ti_ialdD hx hb (aT0 hK) hT hv11 rfl hx1_4p (by decide) (fun j => ⟨_, _, rfl⟩) dX10_write_15 (fun v15 hz15 _ => ?_)
    have s15 : v15.toInt = (ν (6 + x1.toNatClampNeg) : Int) - 1 := many_e hz15
    have hv15 : iv v15 (-1) 60 := many_iv hνb s15 hx1_4p (by decide)
    refine lv_iconst (v := (-1)) hx hb dX10_write_16 (by decide) ?_
    refine lv_icmp_ne (tgt := 23) hx hb dX10_write_17 (by decide) (fun c17 => ?_) (fun c17 => ?_)
    · skip
      have klm1 : (-1 : Int32).toInt = (-1) := by decide
      have f17 := i_ne c17
      have hv15_17l : iv v15 0 60 := iv_nel hv15 (iv_c (x := (-1 : Int32)) (k := (-1)) (by decide)) c17 (by decide)
      refine lv_iload_n hx hb dX10_write_23 rfl (lv_at hl 2 rfl) ?_
      refine lv_i2l hx hb dX10_write_24 rfl ?_
      refine lv_topl (fun v24 e24 => ?_)
      have hv24 : jv v24 (-2147483648) 2147483647 := by rw [e24]; exact jv_i hx2
      have t24 : v24.toInt = x2.toInt := by rw [e24]; exact jv_e _
      refine lv_lconst (v := 0) hx hb dX10_write_25 (by decide) ?_
      have kj0 : (0 : Int64).toInt = 0 := by decide
      refine lv_aload_n hx hb dX10_write_26 rfl (lv_at hl 0 rfl) ?_
      refine ti_getE (ci := 10) (v := .ref v11) hx hb hts inlX10 hown hK hm11 rfl (by decide) (hts _ kw_151) (fun _ h9 => h9) dX10_write_27 ?_
      refine lv_iload_n hx hb dX10_write_30 rfl (lv_at hl 1 rfl) ?_
      refine ti_ialdD hx hb (aT0 hK) hT hv11 rfl hx1_4p (by decide) (fun j => ⟨_, _, rfl⟩) dX10_write_31 (fun v31 hz31 _ => ?_)
      have s31 : v31.toInt = (ν (6 + x1.toNatClampNeg) : Int) - 1 := many_e hz31
      have hv31 : iv v31 (-1) 60 := many_iv hνb s31 hx1_4p (by decide)
      have hq31_8 : iv v31 0 60 := by have b0a := (hv15_17l).1; have b0b := (hv15_17l).2; have b1a := (hv31).1; have b1b := (hv31).2; exact ⟨by omega, by omega⟩
      refine lv_iconst (v := 1) hx hb dX10_write_32 (by decide) ?_
      refine lv_isub hx hb dX10_write_33 ?_
      refine lv_topi (fun v33 e33 => ?_)
      have hv33 : iv v33 (-1) 59 := by rw [e33]; exact iv_w (iv_sub hq31_8 (iv_c (x := (1 : Int32)) (k := 1) (by decide)) (by decide)) (by decide)
      have s33 : v33.toInt = v31.toInt - (1 : Int32).toInt := by rw [e33]; exact iv_subE hq31_8 (iv_c (x := (1 : Int32)) (k := 1) (by decide)) (by decide)
      have kl1 : (1 : Int32).toInt = 1 := by decide
      refine lv_i2l hx hb dX10_write_34 rfl ?_
      refine lv_topl (fun v34 e34 => ?_)
      have hv34 : jv v34 (-1) 59 := by rw [e34]; exact jv_i hv33
      have t34 : v34.toInt = v33.toInt := by rw [e34]; exact jv_e _
      refine ti_calli (va_runS (As := [.long v24, .long (0 : Int64), .long v34]) (rest := []) ⟨hx, hb, hml, hown, hts⟩ (t_X10_in l hT (jv_w hv24 (by decide)) (jv_w (jv_c (x := (0 : Int64)) (k := 0) (by decide)) (by decide)) (jv_w hv34 (by decide))) (cwS 3 hts (good_S kw_181 kw_182 kw_5 kw_183) rfl rfl rfl (by decide +kernel) ⟨by rw [hR]; decide, by rw [hR]; decide⟩) (ti_preS hK) rfl rfl hl.1 rfl (lv_room (Nat.le_of_ble_eq_true rfl)) dX10_write_35 ⟨Nat.zero_le _, Nat.zero_le _⟩) hS (pW_sub rfl) (fun v35 H1 locs hB hS _ hk35 => ?_)
      obtain ⟨hH, hv35, hp35⟩ := hB
      rw [hH] at hS ⊢
      refine lv_if_ne (tgt := 44) hx hb dX10_write_38 (by decide) (fun c38 => ?_) (fun c38 => ?_)
      · skip
        have f38 := i_ne c38
        have hv35_38l : iv v35 1 1 := iv_nel hv35 (iv_c (x := (0 : Int32)) (k := 0) (by decide)) c38 (by decide)
        have hv24_38p : jv v24 0 59 := by have b0a := (hv24).1; have b0b := (hv24).2; have b1a := ((jv_c (x := (0 : Int64)) (k := 0) (by decide))).1; have b1b := ((jv_c (x := (0 : Int64)) (k := 0) (by decide))).2; have b2a := (hv34).1; have b2b := (hv34).2; exact ⟨by omega, by omega⟩
        have hx2_38p : iv x2 0 59 := by have := t24; have b0a := (hv24_38p).1; have b0b := (hv24_38p).2; have b1a := (hx2).1; have b1b := (hx2).2; exact ⟨by omega, by omega⟩
        refine lv_aload_n hx hb dX10_write_44 rfl (lv_at hl 0 rfl) ?_
        refine ti_getr hx hb hts inlX10 hown hK hT ha0 rfl rfl rfl 36 (by decide) (hts _ kw_153) (fun _ h9 => h9) rfl dX10_write_45 (fun v45 hv45 hm45 => ?_)
        refine lv_bipush (v := 60) hx hb dX10_write_48 (by decide) ?_
        refine lv_iload_n hx hb dX10_write_50 rfl (lv_at hl 1 rfl) ?_
        refine lv_imul hx hb dX10_write_51 ?_
        refine lv_topi (fun v51 e51 => ?_)
        have hv51 : iv v51 0 180 := by rw [e51]; exact iv_mul (iv_c (x := (60 : Int32)) (k := 60) (by decide)) hx1_4p (by decide)
        have kl60 : (60 : Int32).toInt = 60 := by decide
        have s51 : v51.toInt = (60 : Int32).toInt * x1.toInt := by rw [e51]; exact iv_mulE (iv_c (x := (60 : Int32)) (k := 60) (by decide)) hx1_4p (by decide)
        have s51 : v51.toInt = 60 * x1.toInt := by rw [s51]; simp only [show (60 : Int32).toInt = 60 from by decide]; try omega
        refine lv_iload_n hx hb dX10_write_52 rfl (lv_at hl 2 rfl) ?_
        refine lv_iadd hx hb dX10_write_53 ?_
        refine lv_topi (fun v53 e53 => ?_)
        have hv53 : iv v53 0 239 := by rw [e53]; exact iv_w (iv_add hv51 hx2_38p (by decide)) (by decide)
        have s53 : v53.toInt = v51.toInt + x2.toInt := by rw [e53]; exact iv_addE hv51 hx2_38p (by decide)
        refine lv_lload_n hx hb dX10_write_54 rfl (lv_at hl 3 rfl) ?_
        refine lv_aload_n hx hb dX10_write_55 rfl (lv_at hl 0 rfl) ?_
        refine ti_getr hx hb hts inlX10 hown hK hT ha0 rfl rfl rfl 35 (by decide) (hts _ kw_152) (fun _ h9 => h9) rfl dX10_write_56 (fun v56 hv56 hm56 => ?_)
        refine lv_iload_n hx hb dX10_write_59 rfl (lv_at hl 1 rfl) ?_
        refine ti_iald (lo := 0) (hi := 3) hx hb (aT0 hK) hT hv56 rfl hx1_4p (by decide) (fun _ _ _ => ⟨_, _, rfl, by decide, by decide⟩) dX10_write_60 (fun v60 hv60 hm60 => ?_)
        refine ti_calll (va_runS (As := [.long x3, .int v60]) (rest := [.int v53, .ref v45]) ⟨hx, hb, hml, hown, hts⟩ (t_X10_cut l hT hx3 (iv_w hv60 (by decide))) (cwS 2 hts (good_S kw_1559 kw_1560 kw_5 kw_1561) rfl rfl rfl (by decide +kernel) ⟨by rw [hR]; decide, by rw [hR]; decide⟩) (ti_preS hK) rfl rfl hl.1 rfl (lv_room (Nat.le_of_ble_eq_true rfl)) dX10_write_61 ⟨Nat.zero_le _, Nat.zero_le _⟩) hS (pW_sub rfl) (fun v61 H1 locs hB hS _ hk61 => ?_)
        have hH := hB
        rw [hH] at hS ⊢
        refine ti_last hx hb (aT3 hK) hT hS hv45 rfl rfl hv53 (by decide) (fun _ _ _ => rfl)  (fun _ _ => trivial) dX10_write_64 (fun H locs hT hS oq64 he64 hk64 => ?_)
        refine lv_iconst (v := 0) hx hb dX10_write_65 (by decide) ?_
        exact ret _ _ _ _ _ dX10_write_66 (⟨hT, iv_w (iv_c (x := (0 : Int32)) (k := 0) (by decide)) (by decide)⟩) hS
      · skip
        have f38 := i_eq c38
        have hv35_38l : iv v35 0 0 := iv_eql hv35 (iv_c (x := (0 : Int32)) (k := 0) (by decide)) c38 (by decide)
        refine lv_bipush (v := (-7)) hx hb dX10_write_41 (by decide) ?_
        exact ret _ _ _ _ _ dX10_write_43 (⟨hT, iv_w (iv_c (x := (-7 : Int32)) (k := (-7)) (by decide)) (by decide)⟩) hS
    · skip
      have klm1 : (-1 : Int32).toInt = (-1) := by decide
      have f17 := i_eq c17
      have hv15_17l : iv v15 (-1) (-1) := iv_eql hv15 (iv_c (x := (-1 : Int32)) (k := (-1)) (by decide)) c17 (by decide)
      refine lv_bipush (v := (-6)) hx hb dX10_write_20 (by decide) ?_
      exact ret _ _ _ _ _ dX10_write_22 (⟨hT, iv_w (iv_c (x := (-6 : Int32)) (k := (-6)) (by decide)) (by decide)⟩) hS
  · skip
    have kl0 : (0 : Int32).toInt = 0 := by decide
    have f4 := i_eq c4
    have hv1_4l : iv v1 0 0 := iv_eql hv1 (iv_c (x := (0 : Int32)) (k := 0) (by decide)) c4 (by decide)
    refine lv_bipush (v := (-2)) hx hb dX10_write_7 (by decide) ?_
    exact ret _ _ _ _ _ dX10_write_9 (⟨hT, iv_w (iv_c (x := (-2 : Int32)) (k := (-2)) (by decide)) (by decide)⟩) hS
set_option maxHeartbeats 4000000 in
set_option maxRecDepth 100000 in
theorem t_X10_paste (l : Launch) {D : va_G} {c0 : Nat → ClassId} {Y : Nat → Option Nat} {ν : Nat → Nat} {H : Heap} (hT : TI D vwCl (tysOf c0) (RTg ν) Y H) {a0 : Nat} (ha0 : Y a0 = some 10) {x1 : Int32} (hx1 : iv x1 (-2147483648) 2147483647) {x2 : Int32} (hx2 : iv x2 (-2147483648) 2147483647) {x3 : Int32} (hx3 : iv x3 (-2147483648) 2147483647) {x4 : Int32} (hx4 : iv x4 (-2147483648) 2147483647) {x5 : Int32} (hx5 : iv x5 (-2147483648) 2147483647) (hνb : ∀ j, j < 4 → ν (6 + j) ≤ 61) (hU : uq Y) : Met l yX10_paste (wz yX10_paste cX10_paste 7 (some .int)) { frames := 2, cells := 0, slots := 0, locals := 45 } (TP D vwCl (tysOf c0) H [.ref a0, .int x1, .int x2, .int x3, .int x4, .int x5]) (TQi (fun x H' => TI D vwCl (tysOf c0) (RTg ν) Y H' ∧ iv x (-8) 0) Y [27, 39]) 0 0 (pW Y [27, 39]) := by
  refine Met.ofW (cc := cX10_paste) (maxL := 7) (ret := (some .int)) (by decide) rfl ?_
  intro p e s m args below meth c s₁ B hml hv
  obtain ⟨rfl, rfl, hK⟩ := hv
  have hx := B.exec
  have hb := B.bytes
  have hr := B.returns
  have hts : ∀ w ∈ wq, w.before _ s = true := fun w h => atoms_spec (ws := wz yX10_paste cX10_paste 7 (some .int)) B.pre w (List.mem_cons_of_mem _ h)
  have hown : s.vm.findClass RX10 = some m.cls := findClass_of_methodNamed B.named
  have hlocks := B.notSynchronized
  obtain ⟨R, hR⟩ : ∃ R : Room, R = ({ frames := 2, cells := 0, slots := 0, locals := 45 } : Room) := ⟨_, rfl⟩
  rw [show (headSpec (wz yX10_paste cX10_paste 7 (some .int)) { frames := 2, cells := 0, slots := 0, locals := 45 }).room = R from hR.symm]
  refine ti_mi hx hb hr hlocks (fun Q ret => ?_)
  have hl := lv_entry [.ref a0, .int x1, .int x2, .int x3, .int x4, .int x5] (n := 7) (Nat.le_of_ble_eq_true rfl)
  rw [lg_entry_eq]
  generalize (lg_sl [.ref a0, .int x1, .int x2, .int x3, .int x4, .int x5] ++ List.replicate (7 - (lg_sl [.ref a0, .int x1, .int x2, .int x3, .int x4, .int x5]).length) Slot.unset).toArray = ls at hl ⊢
  have hl : lv_has ls 7 [(0, .ref a0), (1, .int x1), (2, .int x2), (3, .int x3), (4, .int x4), (5, .int x5)] := hl
  refine ti_gen (P := fun H => TI D vwCl (tysOf c0) (RTg ν) Y H) (Y := Y) (ws := [27, 39]) hT (fun H locs hT hS => ?_)
  refine lv_iload_n hx hb dX10_paste_0 rfl (lv_at hl 1 rfl) ?_
  refine ti_calli (va_runS (As := [.int x1]) (rest := []) ⟨hx, hb, hml, hown, hts⟩ (t_X10_isSlot l hT (iv_w hx1 (by decide))) (cwS 1 hts (good_S kw_816 kw_817 kw_5 kw_818) rfl rfl rfl (by decide +kernel) ⟨by rw [hR]; decide, by rw [hR]; decide⟩) (ti_preS hK) rfl rfl hl.1 rfl (lv_room (Nat.le_of_ble_eq_true rfl)) dX10_paste_1 ⟨Nat.zero_le _, Nat.zero_le _⟩) hS (pW_sub rfl) (fun v1 H1 locs hB hS _ hk1 => ?_)
  obtain ⟨hH, hv1, hp1⟩ := hB
  rw [hH] at hS ⊢
  refine lv_if_eq (tgt := 14) hx hb dX10_paste_4 (by decide) (fun c4 => ?_) (fun c4 => ?_)
  · skip
    have kl0 : (0 : Int32).toInt = 0 := by decide
    have f4 := i_eq c4
    have hv1_4l : iv v1 0 0 := iv_eql hv1 (iv_c (x := (0 : Int32)) (k := 0) (by decide)) c4 (by decide)
    refine lv_bipush (v := (-2)) hx hb dX10_paste_14 (by decide) ?_
    exact ret _ _ _ _ _ dX10_paste_16 (⟨hT, iv_w (iv_c (x := (-2 : Int32)) (k := (-2)) (by decide)) (by decide)⟩) hS
  · skip
    have kl0 : (0 : Int32).toInt = 0 := by decide
    have f4 := i_ne c4
    have hv1_4l : iv v1 1 1 := iv_nel hv1 (iv_c (x := (0 : Int32)) (k := 0) (by decide)) c4 (by decide)
    have hx1_4p : iv x1 0 3 := by have b0a := (hx1).1; have b0b := (hx1).2; exact ⟨by omega, by omega⟩
    refine lv_iload_n hx hb dX10_paste_7 rfl (lv_at hl 3 rfl) ?_
    refine ti_calli (va_runS (As := [.int x3]) (rest := []) ⟨hx, hb, hml, hown, hts⟩ (t_X10_isSlot l hT (iv_w hx3 (by decide))) (cwS 1 hts (good_S kw_816 kw_817 kw_5 kw_818) rfl rfl rfl (by decide +kernel) ⟨by rw [hR]; decide, by rw [hR]; decide⟩) (ti_preS hK) rfl rfl hl.1 rfl (lv_room (Nat.le_of_ble_eq_true rfl)) dX10_paste_8 ⟨Nat.zero_le _, Nat.zero_le _⟩) hS (pW_sub rfl) (fun v8 H1 locs hB hS _ hk8 => ?_)
    obtain ⟨hH, hv8, hp8⟩ := hB
    rw [hH] at hS ⊢
    refine lv_if_ne (tgt := 17) hx hb dX10_paste_11 (by decide) (fun c11 => ?_) (fun c11 => ?_)
    · skip
      have f11 := i_ne c11
      have hv8_11l : iv v8 1 1 := iv_nel hv8 (iv_c (x := (0 : Int32)) (k := 0) (by decide)) c11 (by decide)
      have hx3_11p : iv x3 0 3 := by have b0a := (hx3).1; have b0b := (hx3).2; exact ⟨by omega, by omega⟩
      refine lv_aload_n hx hb dX10_paste_17 rfl (lv_at hl 0 rfl) ?_
      refine ti_getr hx hb hts inlX10 hown hK hT ha0 rfl rfl rfl 34 (by decide) (hts _ kw_151) (fun _ h9 => h9) rfl dX10_paste_18 (fun v18 hv18 hm18 => ?_)
      refine lv_iload_n hx hb dX10_paste_21 rfl (lv_at hl 1 rfl) ?_
      refine ti_ialdD hx hb (aT0 hK) hT hv18 rfl hx1_4p (by decide) (fun j => ⟨_, _, rfl⟩) dX10_paste_22 (fun v22 hz22 _ => ?_)
      have s22 : v22.toInt = (ν (6 + x1.toNatClampNeg) : Int) - 1 := many_e hz22
      have hv22 : iv v22 (-1) 60 := many_iv hνb s22 hx1_4p (by decide)
      refine lv_iconst (v := (-1)) hx hb dX10_paste_23 (by decide) ?_
      refine lv_icmp_eq (tgt := 37) hx hb dX10_paste_24 (by decide) (fun c24 => ?_) (fun c24 => ?_)
      · skip
        have klm1 : (-1 : Int32).toInt = (-1) := by decide
        have f24 := i_eq c24
        have hv22_24l : iv v22 (-1) (-1) := iv_eql hv22 (iv_c (x := (-1 : Int32)) (k := (-1)) (by decide)) c24 (by decide)
        refine lv_bipush (v := (-6)) hx hb dX10_paste_37 (by decide) ?_
        exact ret _ _ _ _ _ dX10_paste_39 (⟨hT, iv_w (iv_c (x := (-6 : Int32)) (k := (-6)) (by decide)) (by decide)⟩) hS
      · skip
        have klm1 : (-1 : Int32).toInt = (-1) := by decide
        have f24 := i_ne c24
        have hv22_24l : iv v22 0 60 := iv_nel hv22 (iv_c (x := (-1 : Int32)) (k := (-1)) (by decide)) c24 (by decide)
        refine lv_aload_n hx hb dX10_paste_27 rfl (lv_at hl 0 rfl) ?_
        refine ti_getE (ci := 10) (v := .ref v18) hx hb hts inlX10 hown hK hm18 rfl (by decide) (hts _ kw_151) (fun _ h9 => h9) dX10_paste_28 ?_
        refine lv_iload_n hx hb dX10_paste_31 rfl (lv_at hl 3 rfl) ?_
        refine ti_ialdD hx hb (aT0 hK) hT hv18 rfl hx3_11p (by decide) (fun j => ⟨_, _, rfl⟩) dX10_paste_32 (fun v32 hz32 _ => ?_)
        have s32 : v32.toInt = (ν (6 + x3.toNatClampNeg) : Int) - 1 := many_e hz32
        have hv32 : iv v32 (-1) 60 := many_iv hνb s32 hx3_11p (by decide)
        refine lv_iconst (v := (-1)) hx hb dX10_paste_33 (by decide) ?_
        refine lv_icmp_ne (tgt := 40) hx hb dX10_paste_34 (by decide) (fun c34 => ?_) (fun c34 => ?_)
        · skip
          have f34 := i_ne c34
          have hv32_34l : iv v32 0 60 := iv_nel hv32 (iv_c (x := (-1 : Int32)) (k := (-1)) (by decide)) c34 (by decide)
          refine lv_aload_n hx hb dX10_paste_40 rfl (lv_at hl 0 rfl) ?_
          refine ti_getr hx hb hts inlX10 hown hK hT ha0 rfl rfl rfl 35 (by decide) (hts _ kw_152) (fun _ h9 => h9) rfl dX10_paste_41 (fun v41 hv41 hm41 => ?_)
          refine lv_iload_n hx hb dX10_paste_44 rfl (lv_at hl 1 rfl) ?_
          refine ti_iald (lo := 0) (hi := 3) hx hb (aT0 hK) hT hv41 rfl hx1_4p (by decide) (fun _ _ _ => ⟨_, _, rfl, by decide, by decide⟩) dX10_paste_45 (fun v45 hv45 hm45 => ?_)
          refine lv_aload_n hx hb dX10_paste_46 rfl (lv_at hl 0 rfl) ?_
          refine ti_getE (ci := 10) (v := .ref v41) hx hb hts inlX10 hown hK hm41 rfl (by decide) (hts _ kw_152) (fun _ h9 => h9) dX10_paste_47 ?_
          refine lv_iload_n hx hb dX10_paste_50 rfl (lv_at hl 3 rfl) ?_
          refine ti_iald (lo := 0) (hi := 3) hx hb (aT0 hK) hT hv41 rfl hx3_11p (by decide) (fun _ _ _ => ⟨_, _, rfl, by decide, by decide⟩) dX10_paste_51 (fun v51 hv51 hm51 => ?_)
          refine lv_icmp_eq (tgt := 58) hx hb dX10_paste_52 (by decide) (fun c52 => ?_) (fun c52 => ?_)
          · skip
            have f52 := i_eq c52
            refine lv_iload_n hx hb dX10_paste_58 rfl (lv_at hl 2 rfl) ?_
            refine lv_if_lt (tgt := 107) hx hb dX10_paste_59 (by decide) (fun c59 => ?_) (fun c59 => ?_)
            · skip
              have f59 := i_lt c59
              have hx2_59l : iv x2 (-2147483648) (-1) := iv_ltl hx2 (iv_c (x := (0 : Int32)) (k := 0) (by decide)) c59 (by decide)
              refine lv_bipush (v := (-7)) hx hb dX10_paste_107 (by decide) ?_
              exact ret _ _ _ _ _ dX10_paste_109 (⟨hT, iv_w (iv_c (x := (-7 : Int32)) (k := (-7)) (by decide)) (by decide)⟩) hS
            · skip
              have f59 := i_nlt c59
              have hx2_59r : iv x2 0 2147483647 := iv_ler (iv_c (x := (0 : Int32)) (k := 0) (by decide)) hx2 (Int32.not_lt.mp c59) (by decide)
              refine lv_iload hx hb dX10_paste_62 (lv_at hl 4 rfl) ?_
              refine lv_if_lt (tgt := 107) hx hb dX10_paste_64 (by decide) (fun c64 => ?_) (fun c64 => ?_)
              · skip
                have f64 := i_lt c64
                have hx4_64l : iv x4 (-2147483648) (-1) := iv_ltl hx4 (iv_c (x := (0 : Int32)) (k := 0) (by decide)) c64 (by decide)
                refine lv_bipush (v := (-7)) hx hb dX10_paste_107 (by decide) ?_
                exact ret _ _ _ _ _ dX10_paste_109 (⟨hT, iv_w (iv_c (x := (-7 : Int32)) (k := (-7)) (by decide)) (by decide)⟩) hS
              · skip
                have f64 := i_nlt c64
                have hx4_64r : iv x4 0 2147483647 := iv_ler (iv_c (x := (0 : Int32)) (k := 0) (by decide)) hx4 (Int32.not_lt.mp c64) (by decide)
                refine lv_iload hx hb dX10_paste_67 (lv_at hl 5 rfl) ?_
                refine lv_if_lt (tgt := 107) hx hb dX10_paste_69 (by decide) (fun c69 => ?_) (fun c69 => ?_)
                · skip
                  have f69 := i_lt c69
                  have hx5_69l : iv x5 (-2147483648) (-1) := iv_ltl hx5 (iv_c (x := (0 : Int32)) (k := 0) (by decide)) c69 (by decide)
                  refine lv_bipush (v := (-7)) hx hb dX10_paste_107 (by decide) ?_
                  exact ret _ _ _ _ _ dX10_paste_109 (⟨hT, iv_w (iv_c (x := (-7 : Int32)) (k := (-7)) (by decide)) (by decide)⟩) hS
                · skip
                  have f69 := i_nlt c69
                  have hx5_69r : iv x5 0 2147483647 := iv_ler (iv_c (x := (0 : Int32)) (k := 0) (by decide)) hx5 (Int32.not_lt.mp c69) (by decide)
                  refine lv_iload_n hx hb dX10_paste_72 rfl (lv_at hl 2 rfl) ?_
                  refine lv_i2l hx hb dX10_paste_73 rfl ?_
                  refine lv_topl (fun v73 e73 => ?_)
                  have hv73 : jv v73 0 2147483647 := by rw [e73]; exact jv_i hx2_59r
                  have t73 : v73.toInt = x2.toInt := by rw [e73]; exact jv_e _
                  refine lv_iload hx hb dX10_paste_74 (lv_at hl 5 rfl) ?_
                  refine lv_i2l hx hb dX10_paste_76 rfl ?_
                  refine lv_topl (fun v76 e76 => ?_)
                  have hv76 : jv v76 0 2147483647 := by rw [e76]; exact jv_i hx5_69r
                  have t76 : v76.toInt = x5.toInt := by rw [e76]; exact jv_e _
                  refine lv_ladd hx hb dX10_paste_77 ?_
                  refine lv_topl (fun v77 e77 => ?_)
                  have s77 : v77.toInt = v73.toInt + v76.toInt := by rw [e77]; exact jv_addE hv73 hv76 (by decide)
                  have hv77 : jv v77 0 4294967294 := by have b0a := (hv73).1; have b0b := (hv73).2; have b1a := (hv76).1; have b1b := (hv76).2; exact ⟨by omega, by omega⟩
                  refine lv_aload_n hx hb dX10_paste_78 rfl (lv_at hl 0 rfl) ?_
                  refine ti_getE (ci := 10) (v := .ref v18) hx hb hts inlX10 hown hK hm18 rfl (by decide) (hts _ kw_151) (fun _ h9 => h9) dX10_paste_79 ?_
                  refine lv_iload_n hx hb dX10_paste_82 rfl (lv_at hl 1 rfl) ?_
                  refine ti_ialdD hx hb (aT0 hK) hT hv18 rfl hx1_4p (by decide) (fun j => ⟨_, _, rfl⟩) dX10_paste_83 (fun v83 hz83 _ => ?_)
                  have s83 : v83.toInt = (ν (6 + x1.toNatClampNeg) : Int) - 1 := many_e hz83
                  have hv83 : iv v83 (-1) 60 := many_iv hνb s83 hx1_4p (by decide)
                  have hq83_159 : iv v83 0 60 := by have b0a := (hv22_24l).1; have b0b := (hv22_24l).2; have b1a := (hv83).1; have b1b := (hv83).2; exact ⟨by omega, by omega⟩
                  refine lv_i2l hx hb dX10_paste_84 rfl ?_
                  refine lv_topl (fun v84 e84 => ?_)
                  have hv84 : jv v84 0 60 := by rw [e84]; exact jv_i hq83_159
                  have t84 : v84.toInt = v83.toInt := by rw [e84]; exact jv_e _
                  refine W.lcmp hx hb dX10_paste_85 ?_
                  refine lv_if_gt (tgt := 107) hx hb dX10_paste_86 (by decide) (fun c86 => ?_) (fun c86 => ?_)
                  · skip
                    have f86 := jc_gt c86
                    have hv77_86a : jv v77 1 4294967294 := by have b0a := (hv77).1; have b0b := (hv77).2; have b1a := (hv84).1; have b1b := (hv84).2; exact ⟨by omega, by omega⟩
                    refine lv_bipush (v := (-7)) hx hb dX10_paste_107 (by decide) ?_
                    exact ret _ _ _ _ _ dX10_paste_109 (⟨hT, iv_w (iv_c (x := (-7 : Int32)) (k := (-7)) (by decide)) (by decide)⟩) hS
                  · skip
                    have f86 := jc_ngt c86
                    have hv77_86a : jv v77 0 60 := by have b0a := (hv77).1; have b0b := (hv77).2; have b1a := (hv84).1; have b1b := (hv84).2; exact ⟨by omega, by omega⟩
                    have hq86_160 : iv x2 0 60 := by have b0a := (hv77_86a).1; have b0b := (hv77_86a).2; have b1a := (hx2_59r).1; have b1b := (hx2_59r).2; have b2a := (hx5_69r).1; have b2b := (hx5_69r).2; exact ⟨by omega, by omega⟩
                    have hq86_161 : iv x5 0 60 := by have b0a := (hv77_86a).1; have b0b := (hv77_86a).2; have b1a := (hq86_160).1; have b1b := (hq86_160).2; have b2a := (hx5_69r).1; have b2b := (hx5_69r).2; exact ⟨by omega, by omega⟩
                    refine lv_iload hx hb dX10_paste_89 (lv_at hl 4 rfl) ?_
                    refine lv_i2l hx hb dX10_paste_91 rfl ?_
                    refine lv_topl (fun v91 e91 => ?_)
                    have hv91 : jv v91 0 2147483647 := by rw [e91]; exact jv_i hx4_64r
                    have t91 : v91.toInt = x4.toInt := by rw [e91]; exact jv_e _
                    refine lv_iload hx hb dX10_paste_92 (lv_at hl 5 rfl) ?_
                    refine lv_i2l hx hb dX10_paste_94 rfl ?_
                    refine lv_topl (fun v94 e94 => ?_)
                    have hv94 : jv v94 0 60 := by rw [e94]; exact jv_i hq86_161
                    have t94 : v94.toInt = x5.toInt := by rw [e94]; exact jv_e _
                    refine lv_ladd hx hb dX10_paste_95 ?_
                    refine lv_topl (fun v95 e95 => ?_)
                    have s95 : v95.toInt = v91.toInt + v94.toInt := by rw [e95]; exact jv_addE hv91 hv94 (by decide)
                    have hv95 : jv v95 0 2147483707 := by have b0a := (hv91).1; have b0b := (hv91).2; have b1a := (hv94).1; have b1b := (hv94).2; exact ⟨by omega, by omega⟩
                    refine lv_aload_n hx hb dX10_paste_96 rfl (lv_at hl 0 rfl) ?_
                    refine ti_getE (ci := 10) (v := .ref v18) hx hb hts inlX10 hown hK hm18 rfl (by decide) (hts _ kw_151) (fun _ h9 => h9) dX10_paste_97 ?_
                    refine lv_iload_n hx hb dX10_paste_100 rfl (lv_at hl 3 rfl) ?_
                    refine ti_ialdD hx hb (aT0 hK) hT hv18 rfl hx3_11p (by decide) (fun j => ⟨_, _, rfl⟩) dX10_paste_101 (fun v101 hz101 _ => ?_)
                    have s101 : v101.toInt = (ν (6 + x3.toNatClampNeg) : Int) - 1 := many_e hz101
                    have hv101 : iv v101 (-1) 60 := many_iv hνb s101 hx3_11p (by decide)
                    have hq101_162 : iv v101 0 60 := by have b0a := (hv32_34l).1; have b0b := (hv32_34l).2; have b1a := (hv101).1; have b1b := (hv101).2; exact ⟨by omega, by omega⟩
                    refine lv_i2l hx hb dX10_paste_102 rfl ?_
                    refine lv_topl (fun v102 e102 => ?_)
                    have hv102 : jv v102 0 60 := by rw [e102]; exact jv_i hq101_162
                    have t102 : v102.toInt = v101.toInt := by rw [e102]; exact jv_e _
                    refine W.lcmp hx hb dX10_paste_103 ?_
                    refine lv_if_le (tgt := 110) hx hb dX10_paste_104 (by decide) (fun c104 => ?_) (fun c104 => ?_)
                    · skip
                      have f104 := jc_le c104
                      have hv95_104a : jv v95 0 60 := by have b0a := (hv95).1; have b0b := (hv95).2; have b1a := (hv102).1; have b1b := (hv102).2; exact ⟨by omega, by omega⟩
                      have hq104_163 : iv x4 0 60 := by have b0a := (hv95_104a).1; have b0b := (hv95_104a).2; have b1a := (hx4_64r).1; have b1b := (hx4_64r).2; have b2a := (hq86_161).1; have b2b := (hq86_161).2; exact ⟨by omega, by omega⟩
                      refine lv_iconst (v := 0) hx hb dX10_paste_110 (by decide) ?_
                      have J113 : ∀ (n : Nat) (j113_L6 : Int32) (H : Heap) (locs : List Loc) (ls : Array Slot), (60 - j113_L6.toInt).toNat < n → iv j113_L6 0 60 → TI D vwCl (tysOf c0) (RTg ν) Y H → va_S (pW Y [27, 39]) s.heap H locs → lv_has ls 7 [(0, .ref a0), (1, .int x1), (2, .int x2), (3, .int x3), (4, .int x4), (5, .int x5), (6, .int j113_L6)] → W p l e R s m ([.ref a0, .int x1, .int x2, .int x3, .int x4, .int x5] : List Value).toArray below meth c H locs 0 0 Q (F0 m 113 ls []) := by
                        intro n
                        induction n with
                        | zero => intro j113_L6 H locs ls hms; exact absurd hms (Nat.not_lt_zero _)
                        | succ n ih113 =>
                          intro j113_L6 H locs ls hms113 hj113_L6 hT hS hl
                          refine lv_iload hx hb dX10_paste_113 (lv_at hl 6 rfl) ?_
                          refine lv_iload hx hb dX10_paste_115 (lv_at hl 5 rfl) ?_
                          refine lv_icmp_ge (tgt := 147) hx hb dX10_paste_117 (by decide) (fun c117 => ?_) (fun c117 => ?_)
                          · skip
                            have f117 := i_le c117
                            refine lv_iconst (v := 0) hx hb dX10_paste_147 (by decide) ?_
                            have J150 : ∀ (n : Nat) (j150_L6 : Int32) (H : Heap) (locs : List Loc) (ls : Array Slot), (60 - j150_L6.toInt).toNat < n → iv j150_L6 0 60 → TI D vwCl (tysOf c0) (RTg ν) Y H → va_S (pW Y [27, 39]) s.heap H locs → lv_has ls 7 [(0, .ref a0), (1, .int x1), (2, .int x2), (3, .int x3), (4, .int x4), (5, .int x5), (6, .int j150_L6)] → W p l e R s m ([.ref a0, .int x1, .int x2, .int x3, .int x4, .int x5] : List Value).toArray below meth c H locs 0 0 Q (F0 m 150 ls []) := by
                              intro n
                              induction n with
                              | zero => intro j150_L6 H locs ls hms; exact absurd hms (Nat.not_lt_zero _)
                              | succ n ih150 =>
                                intro j150_L6 H locs ls hms150 hj150_L6 hT hS hl
                                refine lv_iload hx hb dX10_paste_150 (lv_at hl 6 rfl) ?_
                                refine lv_iload hx hb dX10_paste_152 (lv_at hl 5 rfl) ?_
                                refine lv_icmp_ge (tgt := 185) hx hb dX10_paste_154 (by decide) (fun c154 => ?_) (fun c154 => ?_)
                                · skip
                                  have f154 := i_le c154
                                  refine lv_iconst (v := 0) hx hb dX10_paste_185 (by decide) ?_
                                  exact ret _ _ _ _ _ dX10_paste_186 (⟨hT, iv_w (iv_c (x := (0 : Int32)) (k := 0) (by decide)) (by decide)⟩) hS
                                · skip
                                  have f154 := i_nle c154
                                  have hj150_L6_154l : iv j150_L6 0 59 := iv_ltl hj150_L6 hq86_161 (Int32.not_le.mp c154) (by decide)
                                  have hx5_154r : iv x5 1 60 := iv_ltr hj150_L6_154l hq86_161 (Int32.not_le.mp c154) (by decide)
                                  refine lv_aload_n hx hb dX10_paste_157 rfl (lv_at hl 0 rfl) ?_
                                  refine ti_getr hx hb hts inlX10 hown hK hT ha0 rfl rfl rfl 36 (by decide) (hts _ kw_153) (fun _ h9 => h9) rfl dX10_paste_158 (fun v158 hv158 hm158 => ?_)
                                  refine lv_bipush (v := 60) hx hb dX10_paste_161 (by decide) ?_
                                  refine lv_iload_n hx hb dX10_paste_163 rfl (lv_at hl 3 rfl) ?_
                                  refine lv_imul hx hb dX10_paste_164 ?_
                                  refine lv_topi (fun v164 e164 => ?_)
                                  have hv164 : iv v164 0 180 := by rw [e164]; exact iv_mul (iv_c (x := (60 : Int32)) (k := 60) (by decide)) hx3_11p (by decide)
                                  have kl60 : (60 : Int32).toInt = 60 := by decide
                                  have s164 : v164.toInt = (60 : Int32).toInt * x3.toInt := by rw [e164]; exact iv_mulE (iv_c (x := (60 : Int32)) (k := 60) (by decide)) hx3_11p (by decide)
                                  have s164 : v164.toInt = 60 * x3.toInt := by rw [s164]; simp only [show (60 : Int32).toInt = 60 from by decide]; try omega
                                  refine lv_iload hx hb dX10_paste_165 (lv_at hl 4 rfl) ?_
                                  refine lv_iadd hx hb dX10_paste_167 ?_
                                  refine lv_topi (fun v167 e167 => ?_)
                                  have hv167 : iv v167 0 240 := by rw [e167]; exact iv_w (iv_add hv164 hq104_163 (by decide)) (by decide)
                                  have s167 : v167.toInt = v164.toInt + x4.toInt := by rw [e167]; exact iv_addE hv164 hq104_163 (by decide)
                                  refine lv_iload hx hb dX10_paste_168 (lv_at hl 6 rfl) ?_
                                  refine lv_iadd hx hb dX10_paste_170 ?_
                                  refine lv_topi (fun v170 e170 => ?_)
                                  have hv170 : iv v170 0 299 := by rw [e170]; exact iv_w (iv_add hv167 hj150_L6_154l (by decide)) (by decide)
                                  have s170 : v170.toInt = v167.toInt + j150_L6.toInt := by rw [e170]; exact iv_addE hv167 hj150_L6_154l (by decide)
                                  refine lv_aload_n hx hb dX10_paste_171 rfl (lv_at hl 0 rfl) ?_
                                  refine ti_getr hx hb hts inlX10 hown hK hT ha0 rfl rfl rfl 37 (by decide) (hts _ kw_154) (fun _ h9 => h9) rfl dX10_paste_172 (fun v172 hv172 hm172 => ?_)
                                  refine lv_iload hx hb dX10_paste_175 (lv_at hl 6 rfl) ?_
                                  refine ti_lald hx hb (aT3 hK) hT hv172 rfl hj150_L6_154l (by decide) (fun _ _ _ => rfl) dX10_paste_177 (fun v177 hm177 => ?_)
                                  have hr178_164 : iv v170 0 239 := by have b0a := (hq86_160).1; have b0b := (hq86_160).2; have b1a := (hx3_11p).1; have b1b := (hx3_11p).2; have b2a := (hq104_163).1; have b2b := (hq104_163).2; have b3a := (hx5_154r).1; have b3b := (hx5_154r).2; have b4a := (hv22_24l).1; have b4b := (hv22_24l).2; have b5a := (hv32_34l).1; have b5b := (hv32_34l).2; have b6a := (hv73).1; have b6b := (hv73).2; have b7a := (hv76).1; have b7b := (hv76).2; have b8a := (hv77_86a).1; have b8b := (hv77_86a).2; have b9a := (hq83_159).1; have b9b := (hq83_159).2; have b10a := (hv84).1; have b10b := (hv84).2; have b11a := (hv91).1; have b11b := (hv91).2; have b12a := (hv94).1; have b12b := (hv94).2; have b13a := (hv95_104a).1; have b13b := (hv95_104a).2; have b14a := (hq101_162).1; have b14b := (hq101_162).2; have b15a := (hv102).1; have b15b := (hv102).2; have b16a := (hj113_L6).1; have b16b := (hj113_L6).2; have b17a := (hj150_L6_154l).1; have b17b := (hj150_L6_154l).2; have b18a := (hv164).1; have b18b := (hv164).2; have b19a := (hv167).1; have b19b := (hv167).2; have b20a := (hv170).1; have b20b := (hv170).2; exact ⟨by omega, by omega⟩
                                  refine ti_last hx hb (aT3 hK) hT hS hv158 rfl rfl hr178_164 (by decide) (fun _ _ _ => rfl)  (fun _ _ => trivial) dX10_paste_178 (fun H locs hT hS oq178 he178 hk178 => ?_)
                                  obtain ⟨v179, e179⟩ : ∃ y : Int32, y = j150_L6 + 1 := ⟨_, rfl⟩
                                  have hv179 : iv v179 1 60 := by rw [e179]; exact iv_w (iv_add hj150_L6_154l (iv_c (x := (1 : Int32)) (k := 1) (by decide)) (by decide)) (by decide)
                                  have s179 : v179.toInt = j150_L6.toInt + 1 := by rw [e179, iv_addE hj150_L6_154l (iv_c (x := (1 : Int32)) (k := 1) (by decide)) (by decide)]; rfl
                                  refine lv_iinc (v := v179) (lv' := [(6, .int v179), (0, .ref a0), (1, .int x1), (2, .int x2), (3, .int x3), (4, .int x4), (5, .int x5)]) hx hb dX10_paste_179 hl (k := 6) rfl (by rw [e179]; rfl) (by decide) rfl (fun ls hl => ?_)
                                  refine lv_goto (tgt := 150) hx hb dX10_paste_182 (by decide) ?_
                                  exact ih150 v179 _ _ _ (ms_up hms150 (by have := s179; omega) (iv_w (c := 1) (d := 60) hv179 (by decide)).2) (iv_w hv179 (by decide)) hT hS (lv_sub hl [1, 2, 3, 4, 5, 6, 0] rfl)
                            refine lv_istore (lv' := [(6, .int (0 : Int32)), (0, .ref a0), (1, .int x1), (2, .int x2), (3, .int x3), (4, .int x4), (5, .int x5)]) hx hb dX10_paste_148 hl (by decide) rfl (fun ls hl => ?_)
                            exact J150 _ (0 : Int32) _ _ _ (Nat.lt_succ_self _) (iv_w (iv_c (x := (0 : Int32)) (k := 0) (by decide)) (by decide)) hT hS (lv_sub hl [1, 2, 3, 4, 5, 6, 0] rfl)
                          · skip
                            have f117 := i_nle c117
                            have hj113_L6_117l : iv j113_L6 0 59 := iv_ltl hj113_L6 hq86_161 (Int32.not_le.mp c117) (by decide)
                            have hx5_117r : iv x5 1 60 := iv_ltr hj113_L6_117l hq86_161 (Int32.not_le.mp c117) (by decide)
                            refine lv_aload_n hx hb dX10_paste_120 rfl (lv_at hl 0 rfl) ?_
                            refine ti_getr hx hb hts inlX10 hown hK hT ha0 rfl rfl rfl 37 (by decide) (hts _ kw_154) (fun _ h9 => h9) rfl dX10_paste_121 (fun v121 hv121 hm121 => ?_)
                            refine lv_iload hx hb dX10_paste_124 (lv_at hl 6 rfl) ?_
                            refine lv_aload_n hx hb dX10_paste_126 rfl (lv_at hl 0 rfl) ?_
                            refine ti_getr hx hb hts inlX10 hown hK hT ha0 rfl rfl rfl 36 (by decide) (hts _ kw_153) (fun _ h9 => h9) rfl dX10_paste_127 (fun v127 hv127 hm127 => ?_)
                            refine lv_bipush (v := 60) hx hb dX10_paste_130 (by decide) ?_
                            refine lv_iload_n hx hb dX10_paste_132 rfl (lv_at hl 1 rfl) ?_
                            refine lv_imul hx hb dX10_paste_133 ?_
                            refine lv_topi (fun v133 e133 => ?_)
                            have hv133 : iv v133 0 180 := by rw [e133]; exact iv_mul (iv_c (x := (60 : Int32)) (k := 60) (by decide)) hx1_4p (by decide)
                            have kl60 : (60 : Int32).toInt = 60 := by decide
                            have s133 : v133.toInt = (60 : Int32).toInt * x1.toInt := by rw [e133]; exact iv_mulE (iv_c (x := (60 : Int32)) (k := 60) (by decide)) hx1_4p (by decide)
                            have s133 : v133.toInt = 60 * x1.toInt := by rw [s133]; simp only [show (60 : Int32).toInt = 60 from by decide]; try omega
                            refine lv_iload_n hx hb dX10_paste_134 rfl (lv_at hl 2 rfl) ?_
                            refine lv_iadd hx hb dX10_paste_135 ?_
                            refine lv_topi (fun v135 e135 => ?_)
                            have hv135 : iv v135 0 240 := by rw [e135]; exact iv_w (iv_add hv133 hq86_160 (by decide)) (by decide)
                            have s135 : v135.toInt = v133.toInt + x2.toInt := by rw [e135]; exact iv_addE hv133 hq86_160 (by decide)
                            refine lv_iload hx hb dX10_paste_136 (lv_at hl 6 rfl) ?_
                            refine lv_iadd hx hb dX10_paste_138 ?_
                            refine lv_topi (fun v138 e138 => ?_)
                            have hv138 : iv v138 0 299 := by rw [e138]; exact iv_w (iv_add hv135 hj113_L6_117l (by decide)) (by decide)
                            have s138 : v138.toInt = v135.toInt + j113_L6.toInt := by rw [e138]; exact iv_addE hv135 hj113_L6_117l (by decide)
                            have hr139_165 : iv v138 0 239 := by have b0a := (hx1_4p).1; have b0b := (hx1_4p).2; have b1a := (hq86_160).1; have b1b := (hq86_160).2; have b2a := (hq104_163).1; have b2b := (hq104_163).2; have b3a := (hx5_117r).1; have b3b := (hx5_117r).2; have b4a := (hv22_24l).1; have b4b := (hv22_24l).2; have b5a := (hv32_34l).1; have b5b := (hv32_34l).2; have b6a := (hv73).1; have b6b := (hv73).2; have b7a := (hv76).1; have b7b := (hv76).2; have b8a := (hv77_86a).1; have b8b := (hv77_86a).2; have b9a := (hq83_159).1; have b9b := (hq83_159).2; have b10a := (hv84).1; have b10b := (hv84).2; have b11a := (hv91).1; have b11b := (hv91).2; have b12a := (hv94).1; have b12b := (hv94).2; have b13a := (hv95_104a).1; have b13b := (hv95_104a).2; have b14a := (hq101_162).1; have b14b := (hq101_162).2; have b15a := (hv102).1; have b15b := (hv102).2; have b16a := (hj113_L6_117l).1; have b16b := (hj113_L6_117l).2; have b17a := (hv133).1; have b17b := (hv133).2; have b18a := (hv135).1; have b18b := (hv135).2; have b19a := (hv138).1; have b19b := (hv138).2; exact ⟨by omega, by omega⟩
                            refine ti_lald hx hb (aT3 hK) hT hv127 rfl hr139_165 (by decide) (fun _ _ _ => rfl) dX10_paste_139 (fun v139 hm139 => ?_)
                            refine ti_last hx hb (aT3 hK) hT hS hv121 rfl rfl hj113_L6_117l (by decide) (fun _ _ _ => rfl)  (fun _ _ => trivial) dX10_paste_140 (fun H locs hT hS oq140 he140 hk140 => ?_)
                            obtain ⟨v141, e141⟩ : ∃ y : Int32, y = j113_L6 + 1 := ⟨_, rfl⟩
                            have hv141 : iv v141 1 60 := by rw [e141]; exact iv_w (iv_add hj113_L6_117l (iv_c (x := (1 : Int32)) (k := 1) (by decide)) (by decide)) (by decide)
                            have s141 : v141.toInt = j113_L6.toInt + 1 := by rw [e141, iv_addE hj113_L6_117l (iv_c (x := (1 : Int32)) (k := 1) (by decide)) (by decide)]; rfl
                            refine lv_iinc (v := v141) (lv' := [(6, .int v141), (0, .ref a0), (1, .int x1), (2, .int x2), (3, .int x3), (4, .int x4), (5, .int x5)]) hx hb dX10_paste_141 hl (k := 6) rfl (by rw [e141]; rfl) (by decide) rfl (fun ls hl => ?_)
                            refine lv_goto (tgt := 113) hx hb dX10_paste_144 (by decide) ?_
                            exact ih113 v141 _ _ _ (ms_up hms113 (by have := s141; omega) (iv_w (c := 1) (d := 60) hv141 (by decide)).2) (iv_w hv141 (by decide)) hT hS (lv_sub hl [1, 2, 3, 4, 5, 6, 0] rfl)
                      refine lv_istore (lv' := [(6, .int (0 : Int32)), (0, .ref a0), (1, .int x1), (2, .int x2), (3, .int x3), (4, .int x4), (5, .int x5)]) hx hb dX10_paste_111 hl (by decide) rfl (fun ls hl => ?_)
                      exact J113 _ (0 : Int32) _ _ _ (Nat.lt_succ_self _) (iv_w (iv_c (x := (0 : Int32)) (k := 0) (by decide)) (by decide)) hT hS (lv_sub hl [1, 2, 3, 4, 5, 6, 0] rfl)
                    · skip
                      have f104 := jc_nle c104
                      have hv95_104a : jv v95 1 2147483707 := by have b0a := (hv95).1; have b0b := (hv95).2; have b1a := (hv102).1; have b1b := (hv102).2; exact ⟨by omega, by omega⟩
                      refine lv_bipush (v := (-7)) hx hb dX10_paste_107 (by decide) ?_
                      exact ret _ _ _ _ _ dX10_paste_109 (⟨hT, iv_w (iv_c (x := (-7 : Int32)) (k := (-7)) (by decide)) (by decide)⟩) hS
          · skip
            have f52 := i_ne c52
            refine lv_bipush (v := (-8)) hx hb dX10_paste_55 (by decide) ?_
            exact ret _ _ _ _ _ dX10_paste_57 (⟨hT, iv_w (iv_c (x := (-8 : Int32)) (k := (-8)) (by decide)) (by decide)⟩) hS
        · skip
          have f34 := i_eq c34
          have hv32_34l : iv v32 (-1) (-1) := iv_eql hv32 (iv_c (x := (-1 : Int32)) (k := (-1)) (by decide)) c34 (by decide)
          refine lv_bipush (v := (-6)) hx hb dX10_paste_37 (by decide) ?_
          exact ret _ _ _ _ _ dX10_paste_39 (⟨hT, iv_w (iv_c (x := (-6 : Int32)) (k := (-6)) (by decide)) (by decide)⟩) hS
    · skip
      have f11 := i_eq c11
      have hv8_11l : iv v8 0 0 := iv_eql hv8 (iv_c (x := (0 : Int32)) (k := 0) (by decide)) c11 (by decide)
      refine lv_bipush (v := (-2)) hx hb dX10_paste_14 (by decide) ?_
      exact ret _ _ _ _ _ dX10_paste_16 (⟨hT, iv_w (iv_c (x := (-2 : Int32)) (k := (-2)) (by decide)) (by decide)⟩) hS
