set_option maxHeartbeats 4000000 in
set_option maxRecDepth 100000 in
theorem t_X9_run (l : Launch) {D : va_G} {c0 : Nat → ClassId} {Y : Nat → Option Nat} {ν : Nat → Nat} {H : Heap} (hT : TI D vwCl (tysOf c0) (RTg ν) Y H) {a0 : Nat} (ha0 : Y a0 = some 9) {x1 : Int32} (hx1 : iv x1 (-2147483648) 2147483647) : Met l yX9_run (wz yX9_run cX9_run 4 (some .int)) { frames := 6, cells := 0, slots := 0, locals := 166 } (TP D vwCl (tysOf c0) H [.ref a0, .int x1]) (TQi (fun x H' => TI D vwCl (tysOf c0) (RTg ν) Y H') Y [1, 2, 3, 4, 7, 8, 29]) 0 0 (pW Y [1, 2, 3, 4, 7, 8, 29]) := by
  refine Met.ofW (cc := cX9_run) (maxL := 4) (ret := (some .int)) (by decide) rfl ?_
  intro p e s m args below meth c s₁ B hml hv
  obtain ⟨rfl, rfl, hK⟩ := hv
  have hx := B.exec
  have hb := B.bytes
  have hr := B.returns
  have hts : ∀ w ∈ wq, w.before _ s = true := fun w h => atoms_spec (ws := wz yX9_run cX9_run 4 (some .int)) B.pre w (List.mem_cons_of_mem _ h)
  have hown : s.vm.findClass RX9 = some m.cls := findClass_of_methodNamed B.named
  have hlocks := B.notSynchronized
  obtain ⟨R, hR⟩ : ∃ R : Room, R = ({ frames := 6, cells := 0, slots := 0, locals := 166 } : Room) := ⟨_, rfl⟩
  rw [show (headSpec (wz yX9_run cX9_run 4 (some .int)) { frames := 6, cells := 0, slots := 0, locals := 166 }).room = R from hR.symm]
  refine ti_mi hx hb hr hlocks (fun Q ret => ?_)
  have hl := lv_entry [.ref a0, .int x1] (n := 4) (Nat.le_of_ble_eq_true rfl)
  rw [lg_entry_eq]
  generalize (lg_sl [.ref a0, .int x1] ++ List.replicate (4 - (lg_sl [.ref a0, .int x1]).length) Slot.unset).toArray = ls at hl ⊢
  have hl : lv_has ls 4 [(0, .ref a0), (1, .int x1)] := hl
  refine ti_gen (P := fun H => TI D vwCl (tysOf c0) (RTg ν) Y H) (Y := Y) (ws := [1, 2, 3, 4, 7, 8, 29]) hT (fun H locs hT hS => ?_)
  refine lv_aload_n hx hb dX9_run_0 rfl (lv_at hl 0 rfl) ?_
  refine lv_iload_n hx hb dX9_run_1 rfl (lv_at hl 1 rfl) ?_
  refine ti_calli (va_runV (As := [.int x1]) (rest := []) ⟨hx, hb, hml, hown, hts⟩ (t_X9_canPass l hT ha0 (iv_w hx1 (by decide))) (cwV 1 hts (good_V kw_833 kw_834 kw_835 kw_2 kw_836) rfl rfl rfl (by decide +kernel) ⟨by rw [hR]; decide, by rw [hR]; decide⟩) (ti_preV hK hT ha0 rfl rfl) rfl rfl hl.1 rfl (lv_room (Nat.le_of_ble_eq_true rfl)) dX9_run_2 ⟨Nat.zero_le _, Nat.zero_le _⟩) hS (pW_sub rfl) (fun v2 H1 locs hB hS _ hk2 => ?_)
  obtain ⟨hH, hv2, hp2⟩ := hB
  rw [hH] at hS ⊢
  refine lv_if_ne (tgt := 11) hx hb dX9_run_5 (by decide) (fun c5 => ?_) (fun c5 => ?_)
  · skip
    have kl0 : (0 : Int32).toInt = 0 := by decide
    have f5 := i_ne c5
    have hv2_5l : iv v2 1 1 := iv_nel hv2 (iv_c (x := (0 : Int32)) (k := 0) (by decide)) c5 (by decide)
    have hx1_5p : iv x1 1 30 := by have b0a := (hx1).1; have b0b := (hx1).2; exact ⟨by omega, by omega⟩
    refine lv_iconst (v := 0) hx hb dX9_run_11 (by decide) ?_
    refine lv_istore_n (lv' := [(2, .int (0 : Int32)), (0, .ref a0), (1, .int x1)]) hx hb dX9_run_12 rfl hl (by decide) rfl (fun ls hl => ?_)
    refine lv_iconst (v := 0) hx hb dX9_run_13 (by decide) ?_
    have J15 : ∀ (n : Nat) (j15_L2 : Int32) (j15_L3 : Int32) (H : Heap) (locs : List Loc) (ls : Array Slot), (30 - j15_L3.toInt).toNat < n → iv j15_L2 (-2147483648) 2147483647 → iv j15_L3 0 30 → TI D vwCl (tysOf c0) (RTg ν) Y H → va_S (pW Y [1, 2, 3, 4, 7, 8, 29]) s.heap H locs → lv_has ls 4 [(0, .ref a0), (1, .int x1), (2, .int j15_L2), (3, .int j15_L3)] → W p l e R s m ([.ref a0, .int x1] : List Value).toArray below meth c H locs 0 0 Q (F0 m 15 ls []) := by
      intro n
      induction n with
      | zero => intro j15_L2 j15_L3 H locs ls hms; exact absurd hms (Nat.not_lt_zero _)
      | succ n ih15 =>
        intro j15_L2 j15_L3 H locs ls hms15 hj15_L2 hj15_L3 hT hS hl
        refine lv_iload_n hx hb dX9_run_15 rfl (lv_at hl 3 rfl) ?_
        refine lv_iload_n hx hb dX9_run_16 rfl (lv_at hl 1 rfl) ?_
        refine lv_icmp_ge (tgt := 48) hx hb dX9_run_17 (by decide) (fun c17 => ?_) (fun c17 => ?_)
        · skip
          have f17 := i_le c17
          have hj15_L3_17r : iv j15_L3 1 30 := iv_ler hx1_5p hj15_L3 c17 (by decide)
          refine lv_iload_n hx hb dX9_run_48 rfl (lv_at hl 2 rfl) ?_
          exact ret _ _ _ _ _ dX9_run_49 (hT) hS
        · skip
          have f17 := i_nle c17
          have hj15_L3_17l : iv j15_L3 0 29 := iv_ltl hj15_L3 hx1_5p (Int32.not_le.mp c17) (by decide)
          refine lv_aload_n hx hb dX9_run_20 rfl (lv_at hl 0 rfl) ?_
          refine ti_getr hx hb hts inlX9 hown hK hT ha0 rfl rfl rfl 8 (by decide) (hts _ kw_38) (fun _ h9 => h9) rfl dX9_run_21 (fun v21 hv21 hm21 => ?_)
          refine lv_aload_n hx hb dX9_run_24 rfl (lv_at hl 0 rfl) ?_
          refine ti_getr hx hb hts inlX9 hown hK hT ha0 rfl rfl rfl 1 (by decide) (hts _ kw_20) (fun _ h9 => h9) rfl dX9_run_25 (fun v25 hv25 hm25 => ?_)
          refine lv_iconst (v := 1) hx hb dX9_run_28 (by decide) ?_
          refine ti_callv (va_runV (As := [.ref v25, .int (1 : Int32)]) (rest := []) ⟨hx, hb, hml, hown, hts⟩ (t_X8_pass l hT hv21 hv25 (iv_w (iv_c (x := (1 : Int32)) (k := 1) (by decide)) (by decide))) (cwV 2 hts (good_V kw_840 kw_841 kw_842 kw_37 kw_843) rfl rfl rfl (by decide +kernel) ⟨by rw [hR]; decide, by rw [hR]; decide⟩) (ti_preV hK hT hv21 rfl rfl) rfl rfl hl.1 rfl (lv_room (Nat.le_of_ble_eq_true rfl)) dX9_run_29 ⟨Nat.zero_le _, Nat.zero_le _⟩) hS (pW_sub rfl) (fun H locs hB hS _ hk29 => ?_)
          have hT := hB
          refine lv_iload_n hx hb dX9_run_32 rfl (lv_at hl 2 rfl) ?_
          refine lv_aload_n hx hb dX9_run_33 rfl (lv_at hl 0 rfl) ?_
          refine ti_getE (ci := 9) (v := .ref v21) hx hb hts inlX9 hown hK (hm21.call hk29 (pW_not ha0 rfl)) rfl (by decide) (hts _ kw_38) (fun _ h9 => h9) dX9_run_34 ?_
          refine ti_geti hx hb hts inlX8 hown hK hT hv21 rfl rfl rfl 3 (by decide) (hts _ kw_832) (fun _ h9 => h9) rfl dX9_run_37 (fun v37 hv37 hm37 => ?_)
          refine lv_iadd hx hb dX9_run_40 ?_
          refine lv_topi (fun v40 e40 => ?_)
          have hv40 : iv v40 (-2147483648) 2147483647 := iv_top _
          refine lv_istore_n (lv' := [(2, .int v40), (0, .ref a0), (1, .int x1), (3, .int j15_L3)]) hx hb dX9_run_41 rfl hl (by decide) rfl (fun ls hl => ?_)
          obtain ⟨v42, e42⟩ : ∃ y : Int32, y = j15_L3 + 1 := ⟨_, rfl⟩
          have hv42 : iv v42 1 30 := by rw [e42]; exact iv_w (iv_add hj15_L3_17l (iv_c (x := (1 : Int32)) (k := 1) (by decide)) (by decide)) (by decide)
          have s42 : v42.toInt = j15_L3.toInt + 1 := by rw [e42, iv_addE hj15_L3_17l (iv_c (x := (1 : Int32)) (k := 1) (by decide)) (by decide)]; rfl
          refine lv_iinc (v := v42) (lv' := [(3, .int v42), (2, .int v40), (0, .ref a0), (1, .int x1)]) hx hb dX9_run_42 hl (k := 3) rfl (by rw [e42]; rfl) (by decide) rfl (fun ls hl => ?_)
          refine lv_goto (tgt := 15) hx hb dX9_run_45 (by decide) ?_
          exact ih15 v40 v42 _ _ _ (ms_up hms15 (by have := s42; omega) (iv_w (c := 1) (d := 30) hv42 (by decide)).2) (iv_w hv40 (by decide)) (iv_w hv42 (by decide)) hT hS (lv_sub hl [2, 3, 1, 0] rfl)
    refine lv_istore_n (lv' := [(3, .int (0 : Int32)), (2, .int (0 : Int32)), (0, .ref a0), (1, .int x1)]) hx hb dX9_run_14 rfl hl (by decide) rfl (fun ls hl => ?_)
    exact J15 _ (0 : Int32) (0 : Int32) _ _ _ (Nat.lt_succ_self _) (iv_w (iv_c (x := (0 : Int32)) (k := 0) (by decide)) (by decide)) (iv_w (iv_c (x := (0 : Int32)) (k := 0) (by decide)) (by decide)) hT hS (lv_sub hl [2, 3, 1, 0] rfl)
  · skip
    have kl0 : (0 : Int32).toInt = 0 := by decide
    have f5 := i_eq c5
    have hv2_5l : iv v2 0 0 := iv_eql hv2 (iv_c (x := (0 : Int32)) (k := 0) (by decide)) c5 (by decide)
    refine lv_bipush (v := (-2)) hx hb dX9_run_8 (by decide) ?_
    exact ret _ _ _ _ _ dX9_run_10 (hT) hS
set_option maxHeartbeats 4000000 in
set_option maxRecDepth 100000 in
theorem t_X9_value (l : Launch) {D : va_G} {c0 : Nat → ClassId} {Y : Nat → Option Nat} {ν : Nat → Nat} {H : Heap} (hT : TI D vwCl (tysOf c0) (RTg ν) Y H) {a0 : Nat} (ha0 : Y a0 = some 9) {x1 : Int32} (hx1 : iv x1 (-2147483648) 2147483647) {x2 : Int32} (hx2 : iv x2 (-2147483648) 2147483647) {x3 : Int32} (hx3 : iv x3 (-2147483648) 2147483647) {x4 : Int32} (hx4 : iv x4 (-2147483648) 2147483647) {x5 : Int32} (hx5 : iv x5 (-2147483648) 2147483647) : Met l yX9_value (wz yX9_value cX9_value 6 (some .int)) { frames := 4, cells := 0, slots := 0, locals := 115 } (TP D vwCl (tysOf c0) H [.ref a0, .int x1, .int x2, .int x3, .int x4, .int x5]) (TQi (fun x H' => TI D vwCl (tysOf c0) (RTg ν) Y H') Y [2, 4, 29]) 0 0 (pW Y [2, 4, 29]) := by
  refine Met.ofW (cc := cX9_value) (maxL := 6) (ret := (some .int)) (by decide) rfl ?_
  intro p e s m args below meth c s₁ B hml hv
  obtain ⟨rfl, rfl, hK⟩ := hv
  have hx := B.exec
  have hb := B.bytes
  have hr := B.returns
  have hts : ∀ w ∈ wq, w.before _ s = true := fun w h => atoms_spec (ws := wz yX9_value cX9_value 6 (some .int)) B.pre w (List.mem_cons_of_mem _ h)
  have hown : s.vm.findClass RX9 = some m.cls := findClass_of_methodNamed B.named
  have hlocks := B.notSynchronized
  obtain ⟨R, hR⟩ : ∃ R : Room, R = ({ frames := 4, cells := 0, slots := 0, locals := 115 } : Room) := ⟨_, rfl⟩
  rw [show (headSpec (wz yX9_value cX9_value 6 (some .int)) { frames := 4, cells := 0, slots := 0, locals := 115 }).room = R from hR.symm]
  refine ti_mi hx hb hr hlocks (fun Q ret => ?_)
  have hl := lv_entry [.ref a0, .int x1, .int x2, .int x3, .int x4, .int x5] (n := 6) (Nat.le_of_ble_eq_true rfl)
  rw [lg_entry_eq]
  generalize (lg_sl [.ref a0, .int x1, .int x2, .int x3, .int x4, .int x5] ++ List.replicate (6 - (lg_sl [.ref a0, .int x1, .int x2, .int x3, .int x4, .int x5]).length) Slot.unset).toArray = ls at hl ⊢
  have hl : lv_has ls 6 [(0, .ref a0), (1, .int x1), (2, .int x2), (3, .int x3), (4, .int x4), (5, .int x5)] := hl
  refine ti_gen (P := fun H => TI D vwCl (tysOf c0) (RTg ν) Y H) (Y := Y) (ws := [2, 4, 29]) hT (fun H locs hT hS => ?_)
  refine lv_aload_n hx hb dX9_value_0 rfl (lv_at hl 0 rfl) ?_
  refine lv_aload_n hx hb dX9_value_1 rfl (lv_at hl 0 rfl) ?_
  refine ti_getr hx hb hts inlX9 hown hK hT ha0 rfl rfl rfl 1 (by decide) (hts _ kw_20) (fun _ h9 => h9) rfl dX9_value_2 (fun v2 hv2 hm2 => ?_)
  refine lv_iload_n hx hb dX9_value_5 rfl (lv_at hl 1 rfl) ?_
  refine lv_i2l hx hb dX9_value_6 rfl ?_
  refine lv_topl (fun v6 e6 => ?_)
  have hv6 : jv v6 (-2147483648) 2147483647 := by rw [e6]; exact jv_i hx1
  have t6 : v6.toInt = x1.toInt := by rw [e6]; exact jv_e _
  refine lv_iload_n hx hb dX9_value_7 rfl (lv_at hl 2 rfl) ?_
  refine lv_i2l hx hb dX9_value_8 rfl ?_
  refine lv_topl (fun v8 e8 => ?_)
  have hv8 : jv v8 (-2147483648) 2147483647 := by rw [e8]; exact jv_i hx2
  have t8 : v8.toInt = x2.toInt := by rw [e8]; exact jv_e _
  refine lv_iload_n hx hb dX9_value_9 rfl (lv_at hl 3 rfl) ?_
  refine lv_i2l hx hb dX9_value_10 rfl ?_
  refine lv_topl (fun v10 e10 => ?_)
  have hv10 : jv v10 (-2147483648) 2147483647 := by rw [e10]; exact jv_i hx3
  have t10 : v10.toInt = x3.toInt := by rw [e10]; exact jv_e _
  refine lv_iload hx hb dX9_value_11 (lv_at hl 4 rfl) ?_
  refine lv_i2l hx hb dX9_value_13 rfl ?_
  refine lv_topl (fun v13 e13 => ?_)
  have hv13 : jv v13 (-2147483648) 2147483647 := by rw [e13]; exact jv_i hx4
  have t13 : v13.toInt = x4.toInt := by rw [e13]; exact jv_e _
  refine lv_iload hx hb dX9_value_14 (lv_at hl 5 rfl) ?_
  refine lv_i2l hx hb dX9_value_16 rfl ?_
  refine lv_topl (fun v16 e16 => ?_)
  have hv16 : jv v16 (-2147483648) 2147483647 := by rw [e16]; exact jv_i hx5
  have t16 : v16.toInt = x5.toInt := by rw [e16]; exact jv_e _
  refine ti_calli (va_runV (As := [.ref v2, .long v6, .long v8, .long v10, .long v13, .long v16]) (rest := []) ⟨hx, hb, hml, hown, hts⟩ (t_X9_whyNot l hT ha0 hv2 (jv_w hv6 (by decide)) (jv_w hv8 (by decide)) (jv_w hv10 (by decide)) (jv_w hv13 (by decide)) (jv_w hv16 (by decide))) (cwV 6 hts (good_V kw_756 kw_757 kw_758 kw_2 kw_759) rfl rfl rfl (by decide +kernel) ⟨by rw [hR]; decide, by rw [hR]; decide⟩) (ti_preV hK hT ha0 rfl rfl) rfl rfl hl.1 rfl (lv_room (Nat.le_of_ble_eq_true rfl)) dX9_value_17 ⟨Nat.zero_le _, Nat.zero_le _⟩) hS (pW_sub rfl) (fun v17 H1 locs hB hS _ hk17 => ?_)
  obtain ⟨hH, hv17, hp17⟩ := hB
  rw [hH] at hS ⊢
  refine lv_if_eq (tgt := 26) hx hb dX9_value_20 (by decide) (fun c20 => ?_) (fun c20 => ?_)
  · skip
    have kl0 : (0 : Int32).toInt = 0 := by decide
    have f20 := i_eq c20
    have hv17_20l : iv v17 0 0 := iv_eql hv17 (iv_c (x := (0 : Int32)) (k := 0) (by decide)) c20 (by decide)
    have hv6_20p : jv v6 0 7 := by have b0a := (hv6).1; have b0b := (hv6).2; exact ⟨by omega, by omega⟩
    have hx1_20p : iv x1 0 7 := by have := t6; have b0a := (hv6_20p).1; have b0b := (hv6_20p).2; have b1a := (hx1).1; have b1b := (hx1).2; exact ⟨by omega, by omega⟩
    have hv13_20p : jv v13 0 100000 := by have b0a := (hv13).1; have b0b := (hv13).2; exact ⟨by omega, by omega⟩
    have hx4_20p : iv x4 0 100000 := by have := t13; have b0a := (hv13_20p).1; have b0b := (hv13_20p).2; have b1a := (hx4).1; have b1b := (hx4).2; exact ⟨by omega, by omega⟩
    have hv16_20p : jv v16 (-1) 7 := by have b0a := (hv16).1; have b0b := (hv16).2; exact ⟨by omega, by omega⟩
    have hx5_20p : iv x5 (-1) 7 := by have := t16; have b0a := (hv16_20p).1; have b0b := (hv16_20p).2; have b1a := (hx5).1; have b1b := (hx5).2; exact ⟨by omega, by omega⟩
    refine lv_aload_n hx hb dX9_value_26 rfl (lv_at hl 0 rfl) ?_
    refine ti_getr hx hb hts inlX9 hown hK hT ha0 rfl rfl rfl 7 (by decide) (hts _ kw_34) (fun _ h9 => h9) rfl dX9_value_27 (fun v27 hv27 hm27 => ?_)
    refine lv_aload_n hx hb dX9_value_30 rfl (lv_at hl 0 rfl) ?_
    refine ti_getE (ci := 9) (v := .ref v2) hx hb hts inlX9 hown hK hm2 rfl (by decide) (hts _ kw_20) (fun _ h9 => h9) dX9_value_31 ?_
    refine lv_iload_n hx hb dX9_value_34 rfl (lv_at hl 1 rfl) ?_
    refine lv_iconst (v := 0) hx hb dX9_value_35 (by decide) ?_
    refine lv_iconst (v := 1) hx hb dX9_value_36 (by decide) ?_
    refine ti_callv (va_runV (As := [.ref v2, .int x1, .int (0 : Int32), .int (1 : Int32)]) (rest := []) ⟨hx, hb, hml, hown, hts⟩ (t_X2_see l hT hv27 hv2 (iv_w hx1_20p (by decide)) (iv_w (iv_c (x := (0 : Int32)) (k := 0) (by decide)) (by decide)) (iv_w (iv_c (x := (1 : Int32)) (k := 1) (by decide)) (by decide))) (cwV 4 hts (good_V kw_1004 kw_867 kw_868 kw_33 kw_869) rfl rfl rfl (by decide +kernel) ⟨by rw [hR]; decide, by rw [hR]; decide⟩) (ti_preV hK hT hv27 rfl rfl) rfl rfl hl.1 rfl (lv_room (Nat.le_of_ble_eq_true rfl)) dX9_value_37 ⟨Nat.zero_le _, Nat.zero_le _⟩) hS (pW_sub rfl) (fun H locs hB hS _ hk37 => ?_)
    have hT := hB
    refine lv_aload_n hx hb dX9_value_40 rfl (lv_at hl 0 rfl) ?_
    refine ti_getE (ci := 9) (v := .ref v27) hx hb hts inlX9 hown hK (hm27.call hk37 (pW_not ha0 rfl)) rfl (by decide) (hts _ kw_34) (fun _ h9 => h9) dX9_value_41 ?_
    refine lv_aload_n hx hb dX9_value_44 rfl (lv_at hl 0 rfl) ?_
    refine ti_getE (ci := 9) (v := .ref v2) hx hb hts inlX9 hown hK (hm2.call hk37 (pW_not ha0 rfl)) rfl (by decide) (hts _ kw_20) (fun _ h9 => h9) dX9_value_45 ?_
    refine lv_iload_n hx hb dX9_value_48 rfl (lv_at hl 2 rfl) ?_
    refine lv_iload_n hx hb dX9_value_49 rfl (lv_at hl 3 rfl) ?_
    refine lv_iload hx hb dX9_value_50 (lv_at hl 4 rfl) ?_
    refine lv_iload hx hb dX9_value_52 (lv_at hl 5 rfl) ?_
    refine ti_calli (va_runV (As := [.ref v2, .int x2, .int x3, .int x4, .int x5]) (rest := []) ⟨hx, hb, hml, hown, hts⟩ (t_X2_worthOf l hT hv27 hv2 (iv_w hx2 (by decide)) (iv_w hx3 (by decide)) (iv_w hx4_20p (by decide)) (iv_w hx5_20p (by decide)) (fun h9 => by have b0a := (hx4_20p).1; have b0b := (hx4_20p).2; have b1a := (hx5_20p).1; have b1b := (hx5_20p).2; omega)) (cwV 5 hts (good_V kw_1005 kw_1006 kw_1007 kw_33 kw_1008) rfl rfl rfl (by decide +kernel) ⟨by rw [hR]; decide, by rw [hR]; decide⟩) (ti_preV hK hT hv27 rfl rfl) rfl rfl hl.1 rfl (lv_room (Nat.le_of_ble_eq_true rfl)) dX9_value_54 ⟨Nat.zero_le _, Nat.zero_le _⟩) hS (pW_sub rfl) (fun v54 H locs hB hS _ hk54 => ?_)
    have hT := hB
    exact ret _ _ _ _ _ dX9_value_57 (hT) hS
  · skip
    have kl0 : (0 : Int32).toInt = 0 := by decide
    have f20 := i_ne c20
    have hv17_20l : iv v17 (-5) (-1) := iv_nel hv17 (iv_c (x := (0 : Int32)) (k := 0) (by decide)) c20 (by decide)
    refine lv_ldc (v := (-2000000000)) hx hb hown (hts _ kw_1003) dX9_value_23 ?_
    exact ret _ _ _ _ _ dX9_value_25 (hT) hS
set_option maxHeartbeats 4000000 in
set_option maxRecDepth 100000 in
theorem t_X9_best (l : Launch) {D : va_G} {c0 : Nat → ClassId} {Y : Nat → Option Nat} {ν : Nat → Nat} {H : Heap} (hT : TI D vwCl (tysOf c0) (RTg ν) Y H) {a0 : Nat} (ha0 : Y a0 = some 9) {x1 : Int32} (hx1 : iv x1 (-2147483648) 2147483647) {x2 : Int32} (hx2 : iv x2 (-2147483648) 2147483647) : Met l yX9_best (wz yX9_best cX9_best 3 (some .int)) { frames := 4, cells := 0, slots := 0, locals := 117 } (TP D vwCl (tysOf c0) H [.ref a0, .int x1, .int x2]) (TQi (fun x H' => TI D vwCl (tysOf c0) (RTg ν) Y H') Y [2, 4, 29]) 0 0 (pW Y [2, 4, 29]) := by
  refine Met.ofW (cc := cX9_best) (maxL := 3) (ret := (some .int)) (by decide) rfl ?_
  intro p e s m args below meth c s₁ B hml hv
  obtain ⟨rfl, rfl, hK⟩ := hv
  have hx := B.exec
  have hb := B.bytes
  have hr := B.returns
  have hts : ∀ w ∈ wq, w.before _ s = true := fun w h => atoms_spec (ws := wz yX9_best cX9_best 3 (some .int)) B.pre w (List.mem_cons_of_mem _ h)
  have hown : s.vm.findClass RX9 = some m.cls := findClass_of_methodNamed B.named
  have hlocks := B.notSynchronized
  obtain ⟨R, hR⟩ : ∃ R : Room, R = ({ frames := 4, cells := 0, slots := 0, locals := 117 } : Room) := ⟨_, rfl⟩
  rw [show (headSpec (wz yX9_best cX9_best 3 (some .int)) { frames := 4, cells := 0, slots := 0, locals := 117 }).room = R from hR.symm]
  refine ti_mi hx hb hr hlocks (fun Q ret => ?_)
  have hl := lv_entry [.ref a0, .int x1, .int x2] (n := 3) (Nat.le_of_ble_eq_true rfl)
  rw [lg_entry_eq]
  generalize (lg_sl [.ref a0, .int x1, .int x2] ++ List.replicate (3 - (lg_sl [.ref a0, .int x1, .int x2]).length) Slot.unset).toArray = ls at hl ⊢
  have hl : lv_has ls 3 [(0, .ref a0), (1, .int x1), (2, .int x2)] := hl
  refine ti_gen (P := fun H => TI D vwCl (tysOf c0) (RTg ν) Y H) (Y := Y) (ws := [2, 4, 29]) hT (fun H locs hT hS => ?_)
  refine lv_aload_n hx hb dX9_best_0 rfl (lv_at hl 0 rfl) ?_
  refine lv_iload_n hx hb dX9_best_1 rfl (lv_at hl 1 rfl) ?_
  refine lv_i2l hx hb dX9_best_2 rfl ?_
  refine lv_topl (fun v2 e2 => ?_)
  have hv2 : jv v2 (-2147483648) 2147483647 := by rw [e2]; exact jv_i hx1
  have t2 : v2.toInt = x1.toInt := by rw [e2]; exact jv_e _
  refine ti_calli (va_runV (As := [.long v2]) (rest := []) ⟨hx, hb, hml, hown, hts⟩ (t_X9_isPerson l hT ha0 (jv_w hv2 (by decide))) (cwV 1 hts (good_V kw_476 kw_477 kw_478 kw_2 kw_479) rfl rfl rfl (by decide +kernel) ⟨by rw [hR]; decide, by rw [hR]; decide⟩) (ti_preV hK hT ha0 rfl rfl) rfl rfl hl.1 rfl (lv_room (Nat.le_of_ble_eq_true rfl)) dX9_best_3 ⟨Nat.zero_le _, Nat.zero_le _⟩) hS (pW_sub rfl) (fun v3 H1 locs hB hS _ hk3 => ?_)
  obtain ⟨hH, hv3, hp3⟩ := hB
  rw [hH] at hS ⊢
  have J18 : ∀  (H : Heap) (locs : List Loc) (ls : Array Slot), TI D vwCl (tysOf c0) (RTg ν) Y H → va_S (pW Y [2, 4, 29]) s.heap H locs → lv_has ls 3 [(0, .ref a0), (1, .int x1), (2, .int x2)] → W p l e R s m ([.ref a0, .int x1, .int x2] : List Value).toArray below meth c H locs 0 0 Q (F0 m 18 ls []) := by
    intro  H locs ls  hT hS hl
    refine lv_iload_n hx hb dX9_best_18 rfl (lv_at hl 2 rfl) ?_
    refine lv_if_ne (tgt := 27) hx hb dX9_best_19 (by decide) (fun c19 => ?_) (fun c19 => ?_)
    · skip
      have kl0 : (0 : Int32).toInt = 0 := by decide
      have f19 := i_ne c19
      refine lv_bipush (v := (-2)) hx hb dX9_best_27 (by decide) ?_
      exact ret _ _ _ _ _ dX9_best_29 (hT) hS
    · skip
      have kl0 : (0 : Int32).toInt = 0 := by decide
      have f19 := i_eq c19
      have hx2_19l : iv x2 0 0 := iv_eql hx2 (iv_c (x := (0 : Int32)) (k := 0) (by decide)) c19 (by decide)
      refine lv_ldc (v := (-2000000000)) hx hb hown (hts _ kw_1003) dX9_best_22 ?_
      refine lv_goto (tgt := 29) hx hb dX9_best_24 (by decide) ?_
      exact ret _ _ _ _ _ dX9_best_29 (hT) hS
  refine lv_if_eq (tgt := 18) hx hb dX9_best_6 (by decide) (fun c6 => ?_) (fun c6 => ?_)
  · skip
    have kl0 : (0 : Int32).toInt = 0 := by decide
    have f6 := i_eq c6
    have hv3_6l : iv v3 0 0 := iv_eql hv3 (iv_c (x := (0 : Int32)) (k := 0) (by decide)) c6 (by decide)
    exact J18  _ _ _   hT hS (lv_sub hl [0, 1, 2] rfl)
  · skip
    have kl0 : (0 : Int32).toInt = 0 := by decide
    have f6 := i_ne c6
    have hv3_6l : iv v3 1 1 := iv_nel hv3 (iv_c (x := (0 : Int32)) (k := 0) (by decide)) c6 (by decide)
    have hv2_6p : jv v2 0 7 := by have b0a := (hv2).1; have b0b := (hv2).2; exact ⟨by omega, by omega⟩
    have hx1_6p : iv x1 0 7 := by have := t2; have b0a := (hv2_6p).1; have b0b := (hv2_6p).2; have b1a := (hx1).1; have b1b := (hx1).2; exact ⟨by omega, by omega⟩
    refine lv_iload_n hx hb dX9_best_9 rfl (lv_at hl 2 rfl) ?_
    refine lv_if_lt (tgt := 18) hx hb dX9_best_10 (by decide) (fun c10 => ?_) (fun c10 => ?_)
    · skip
      have f10 := i_lt c10
      have hx2_10l : iv x2 (-2147483648) (-1) := iv_ltl hx2 (iv_c (x := (0 : Int32)) (k := 0) (by decide)) c10 (by decide)
      exact J18  _ _ _   hT hS (lv_sub hl [0, 1, 2] rfl)
    · skip
      have f10 := i_nlt c10
      have hx2_10r : iv x2 0 2147483647 := iv_ler (iv_c (x := (0 : Int32)) (k := 0) (by decide)) hx2 (Int32.not_lt.mp c10) (by decide)
      refine lv_iload_n hx hb dX9_best_13 rfl (lv_at hl 2 rfl) ?_
      refine lv_iconst (v := 4) hx hb dX9_best_14 (by decide) ?_
      refine lv_icmp_le (tgt := 30) hx hb dX9_best_15 (by decide) (fun c15 => ?_) (fun c15 => ?_)
      · skip
        have kl4 : (4 : Int32).toInt = 4 := by decide
        have f15 := i_le c15
        have hx2_15l : iv x2 0 4 := iv_lel hx2_10r (iv_c (x := (4 : Int32)) (k := 4) (by decide)) c15 (by decide)
        refine lv_aload_n hx hb dX9_best_30 rfl (lv_at hl 0 rfl) ?_
        refine ti_getr hx hb hts inlX9 hown hK hT ha0 rfl rfl rfl 7 (by decide) (hts _ kw_34) (fun _ h9 => h9) rfl dX9_best_31 (fun v31 hv31 hm31 => ?_)
        refine lv_aload_n hx hb dX9_best_34 rfl (lv_at hl 0 rfl) ?_
        refine ti_getr hx hb hts inlX9 hown hK hT ha0 rfl rfl rfl 1 (by decide) (hts _ kw_20) (fun _ h9 => h9) rfl dX9_best_35 (fun v35 hv35 hm35 => ?_)
        refine lv_iload_n hx hb dX9_best_38 rfl (lv_at hl 1 rfl) ?_
        refine lv_iconst (v := 0) hx hb dX9_best_39 (by decide) ?_
        refine lv_iconst (v := 1) hx hb dX9_best_40 (by decide) ?_
        refine ti_callv (va_runV (As := [.ref v35, .int x1, .int (0 : Int32), .int (1 : Int32)]) (rest := []) ⟨hx, hb, hml, hown, hts⟩ (t_X2_see l hT hv31 hv35 (iv_w hx1_6p (by decide)) (iv_w (iv_c (x := (0 : Int32)) (k := 0) (by decide)) (by decide)) (iv_w (iv_c (x := (1 : Int32)) (k := 1) (by decide)) (by decide))) (cwV 4 hts (good_V kw_1004 kw_867 kw_868 kw_33 kw_869) rfl rfl rfl (by decide +kernel) ⟨by rw [hR]; decide, by rw [hR]; decide⟩) (ti_preV hK hT hv31 rfl rfl) rfl rfl hl.1 rfl (lv_room (Nat.le_of_ble_eq_true rfl)) dX9_best_41 ⟨Nat.zero_le _, Nat.zero_le _⟩) hS (pW_sub rfl) (fun H locs hB hS _ hk41 => ?_)
        have hT := hB
        refine lv_aload_n hx hb dX9_best_44 rfl (lv_at hl 0 rfl) ?_
        refine ti_getE (ci := 9) (v := .ref v31) hx hb hts inlX9 hown hK (hm31.call hk41 (pW_not ha0 rfl)) rfl (by decide) (hts _ kw_34) (fun _ h9 => h9) dX9_best_45 ?_
        refine lv_aload_n hx hb dX9_best_48 rfl (lv_at hl 0 rfl) ?_
        refine ti_getE (ci := 9) (v := .ref v35) hx hb hts inlX9 hown hK (hm35.call hk41 (pW_not ha0 rfl)) rfl (by decide) (hts _ kw_20) (fun _ h9 => h9) dX9_best_49 ?_
        refine lv_iconst (v := 1) hx hb dX9_best_52 (by decide) ?_
        refine ti_callv (va_runV (As := [.ref v35, .int (1 : Int32)]) (rest := []) ⟨hx, hb, hml, hown, hts⟩ (t_X2_search l hT hv31 hv35 (iv_w (iv_c (x := (1 : Int32)) (k := 1) (by decide)) (by decide))) (cwV 2 hts (good_V kw_1022 kw_879 kw_880 kw_33 kw_881) rfl rfl rfl (by decide +kernel) ⟨by rw [hR]; decide, by rw [hR]; decide⟩) (ti_preV hK hT hv31 rfl rfl) rfl rfl hl.1 rfl (lv_room (Nat.le_of_ble_eq_true rfl)) dX9_best_53 ⟨Nat.zero_le _, Nat.zero_le _⟩) hS (pW_sub rfl) (fun H locs hB hS _ hk53 => ?_)
        have hT := hB
        refine lv_aload_n hx hb dX9_best_56 rfl (lv_at hl 0 rfl) ?_
        refine ti_getE (ci := 9) (v := .ref v31) hx hb hts inlX9 hown hK ((hm31.call hk41 (pW_not ha0 rfl)).call hk53 (pW_not ha0 rfl)) rfl (by decide) (hts _ kw_34) (fun _ h9 => h9) dX9_best_57 ?_
        refine lv_aload_n hx hb dX9_best_60 rfl (lv_at hl 0 rfl) ?_
        refine ti_getE (ci := 9) (v := .ref v35) hx hb hts inlX9 hown hK ((hm35.call hk41 (pW_not ha0 rfl)).call hk53 (pW_not ha0 rfl)) rfl (by decide) (hts _ kw_20) (fun _ h9 => h9) dX9_best_61 ?_
        refine lv_iconst (v := 0) hx hb dX9_best_64 (by decide) ?_
        refine ti_callv (va_runV (As := [.ref v35, .int (0 : Int32)]) (rest := []) ⟨hx, hb, hml, hown, hts⟩ (t_X2_search l hT hv31 hv35 (iv_w (iv_c (x := (0 : Int32)) (k := 0) (by decide)) (by decide))) (cwV 2 hts (good_V kw_1022 kw_879 kw_880 kw_33 kw_881) rfl rfl rfl (by decide +kernel) ⟨by rw [hR]; decide, by rw [hR]; decide⟩) (ti_preV hK hT hv31 rfl rfl) rfl rfl hl.1 rfl (lv_room (Nat.le_of_ble_eq_true rfl)) dX9_best_65 ⟨Nat.zero_le _, Nat.zero_le _⟩) hS (pW_sub rfl) (fun H locs hB hS _ hk65 => ?_)
        have hT := hB
        refine lv_iload_n hx hb dX9_best_68 rfl (lv_at hl 2 rfl) ?_
        by_cases c69_0 : x2.toInt = 0
        · skip
          refine lv_tableIn (off := 31) (tgt := 100) hx hb dX9_best_69 (by omega) (by omega) (by rw [c69_0]; rfl) (by decide) ?_
          have hx2_69 : iv x2 0 0 := iv_c c69_0
          refine lv_aload_n hx hb dX9_best_100 rfl (lv_at hl 0 rfl) ?_
          refine ti_getE (ci := 9) (v := .ref v31) hx hb hts inlX9 hown hK (((hm31.call hk41 (pW_not ha0 rfl)).call hk53 (pW_not ha0 rfl)).call hk65 (pW_not ha0 rfl)) rfl (by decide) (hts _ kw_34) (fun _ h9 => h9) dX9_best_101 ?_
          refine ti_geti hx hb hts inlX2 hown hK hT hv31 rfl rfl rfl 4 (by decide) (hts _ kw_1017) (fun _ h9 => h9) rfl dX9_best_104 (fun v104 hv104 hm104 => ?_)
          exact ret _ _ _ _ _ dX9_best_107 (hT) hS
        by_cases c69_1 : x2.toInt = 1
        · skip
          refine lv_tableIn (off := 39) (tgt := 108) hx hb dX9_best_69 (by omega) (by omega) (by rw [c69_1]; rfl) (by decide) ?_
          have hx2_69 : iv x2 1 1 := iv_c c69_1
          refine lv_aload_n hx hb dX9_best_108 rfl (lv_at hl 0 rfl) ?_
          refine ti_getE (ci := 9) (v := .ref v31) hx hb hts inlX9 hown hK (((hm31.call hk41 (pW_not ha0 rfl)).call hk53 (pW_not ha0 rfl)).call hk65 (pW_not ha0 rfl)) rfl (by decide) (hts _ kw_34) (fun _ h9 => h9) dX9_best_109 ?_
          refine ti_geti hx hb hts inlX2 hown hK hT hv31 rfl rfl rfl 5 (by decide) (hts _ kw_1018) (fun _ h9 => h9) rfl dX9_best_112 (fun v112 hv112 hm112 => ?_)
          exact ret _ _ _ _ _ dX9_best_115 (hT) hS
        by_cases c69_2 : x2.toInt = 2
        · skip
          refine lv_tableIn (off := 47) (tgt := 116) hx hb dX9_best_69 (by omega) (by omega) (by rw [c69_2]; rfl) (by decide) ?_
          have hx2_69 : iv x2 2 2 := iv_c c69_2
          refine lv_aload_n hx hb dX9_best_116 rfl (lv_at hl 0 rfl) ?_
          refine ti_getE (ci := 9) (v := .ref v31) hx hb hts inlX9 hown hK (((hm31.call hk41 (pW_not ha0 rfl)).call hk53 (pW_not ha0 rfl)).call hk65 (pW_not ha0 rfl)) rfl (by decide) (hts _ kw_34) (fun _ h9 => h9) dX9_best_117 ?_
          refine ti_geti hx hb hts inlX2 hown hK hT hv31 rfl rfl rfl 6 (by decide) (hts _ kw_1019) (fun _ h9 => h9) rfl dX9_best_120 (fun v120 hv120 hm120 => ?_)
          exact ret _ _ _ _ _ dX9_best_123 (hT) hS
        by_cases c69_3 : x2.toInt = 3
        · skip
          refine lv_tableIn (off := 55) (tgt := 124) hx hb dX9_best_69 (by omega) (by omega) (by rw [c69_3]; rfl) (by decide) ?_
          have hx2_69 : iv x2 3 3 := iv_c c69_3
          refine lv_aload_n hx hb dX9_best_124 rfl (lv_at hl 0 rfl) ?_
          refine ti_getE (ci := 9) (v := .ref v31) hx hb hts inlX9 hown hK (((hm31.call hk41 (pW_not ha0 rfl)).call hk53 (pW_not ha0 rfl)).call hk65 (pW_not ha0 rfl)) rfl (by decide) (hts _ kw_34) (fun _ h9 => h9) dX9_best_125 ?_
          refine ti_geti hx hb hts inlX2 hown hK hT hv31 rfl rfl rfl 7 (by decide) (hts _ kw_1020) (fun _ h9 => h9) rfl dX9_best_128 (fun v128 hv128 hm128 => ?_)
          exact ret _ _ _ _ _ dX9_best_131 (hT) hS
        refine lv_tableOut (tgt := 132) hx hb dX9_best_69 (by have b0a := (hx2_15l).1; have b0b := (hx2_15l).2; omega) (by decide) ?_
        refine lv_aload_n hx hb dX9_best_132 rfl (lv_at hl 0 rfl) ?_
        refine ti_getE (ci := 9) (v := .ref v31) hx hb hts inlX9 hown hK (((hm31.call hk41 (pW_not ha0 rfl)).call hk53 (pW_not ha0 rfl)).call hk65 (pW_not ha0 rfl)) rfl (by decide) (hts _ kw_34) (fun _ h9 => h9) dX9_best_133 ?_
        refine ti_geti hx hb hts inlX2 hown hK hT hv31 rfl rfl rfl 8 (by decide) (hts _ kw_1021) (fun _ h9 => h9) rfl dX9_best_136 (fun v136 hv136 hm136 => ?_)
        exact ret _ _ _ _ _ dX9_best_139 (hT) hS
      · skip
        have kl4 : (4 : Int32).toInt = 4 := by decide
        have f15 := i_nle c15
        have hx2_15r : iv x2 5 2147483647 := iv_ltr (iv_c (x := (4 : Int32)) (k := 4) (by decide)) hx2_10r (Int32.not_le.mp c15) (by decide)
        exact J18  _ _ _   hT hS (lv_sub hl [0, 1, 2] rfl)
set_option maxHeartbeats 4000000 in
set_option maxRecDepth 100000 in
theorem t_X9_lookAfterHanding (l : Launch) {D : va_G} {c0 : Nat → ClassId} {Y : Nat → Option Nat} {ν : Nat → Nat} {H : Heap} (hT : TI D vwCl (tysOf c0) (RTg ν) Y H) {a0 : Nat} (ha0 : Y a0 = some 9) {x1 : Int32} (hx1 : iv x1 0 7) {x2 : Int32} (hx2 : iv x2 0 7) {x3 : Int32} (hx3 : iv x3 0 100000) : Met l yX9_lookAfterHanding (wz yX9_lookAfterHanding cX9_lookAfterHanding 4 none) { frames := 3, cells := 0, slots := 0, locals := 105 } (TP D vwCl (tysOf c0) H [.ref a0, .int x1, .int x2, .int x3]) (TQv (fun H' => TI D vwCl (tysOf c0) (RTg ν) Y H') Y [4, 29]) 0 0 (pW Y [4, 29]) := by
  refine Met.ofW (cc := cX9_lookAfterHanding) (maxL := 4) (ret := none) (by decide) rfl ?_
  intro p e s m args below meth c s₁ B hml hv
  obtain ⟨rfl, rfl, hK⟩ := hv
  have hx := B.exec
  have hb := B.bytes
  have hr := B.returns
  have hts : ∀ w ∈ wq, w.before _ s = true := fun w h => atoms_spec (ws := wz yX9_lookAfterHanding cX9_lookAfterHanding 4 none) B.pre w (List.mem_cons_of_mem _ h)
  have hown : s.vm.findClass RX9 = some m.cls := findClass_of_methodNamed B.named
  have hlocks := B.notSynchronized
  obtain ⟨R, hR⟩ : ∃ R : Room, R = ({ frames := 3, cells := 0, slots := 0, locals := 105 } : Room) := ⟨_, rfl⟩
  rw [show (headSpec (wz yX9_lookAfterHanding cX9_lookAfterHanding 4 none) { frames := 3, cells := 0, slots := 0, locals := 105 }).room = R from hR.symm]
  refine ti_mv hx hb hr hlocks (fun Q ret => ?_)
  have hl := lv_entry [.ref a0, .int x1, .int x2, .int x3] (n := 4) (Nat.le_of_ble_eq_true rfl)
  rw [lg_entry_eq]
  generalize (lg_sl [.ref a0, .int x1, .int x2, .int x3] ++ List.replicate (4 - (lg_sl [.ref a0, .int x1, .int x2, .int x3]).length) Slot.unset).toArray = ls at hl ⊢
  have hl : lv_has ls 4 [(0, .ref a0), (1, .int x1), (2, .int x2), (3, .int x3)] := hl
  refine ti_gen (P := fun H => TI D vwCl (tysOf c0) (RTg ν) Y H) (Y := Y) (ws := [4, 29]) hT (fun H locs hT hS => ?_)
  refine lv_aload_n hx hb dX9_lookAfterHanding_0 rfl (lv_at hl 0 rfl) ?_
  refine ti_getr hx hb hts inlX9 hown hK hT ha0 rfl rfl rfl 6 (by decide) (hts _ kw_30) (fun _ h9 => h9) rfl dX9_lookAfterHanding_1 (fun v1 hv1 hm1 => ?_)
  refine lv_aload_n hx hb dX9_lookAfterHanding_4 rfl (lv_at hl 0 rfl) ?_
  refine ti_getr hx hb hts inlX9 hown hK hT ha0 rfl rfl rfl 1 (by decide) (hts _ kw_20) (fun _ h9 => h9) rfl dX9_lookAfterHanding_5 (fun v5 hv5 hm5 => ?_)
  refine ti_callv (va_runV (As := [.ref v5]) (rest := []) ⟨hx, hb, hml, hown, hts⟩ (t_X4_load l hT hv1 hv5) (cwV 1 hts (good_V kw_576 kw_577 kw_578 kw_29 kw_579) rfl rfl rfl (by decide +kernel) ⟨by rw [hR]; decide, by rw [hR]; decide⟩) (ti_preV hK hT hv1 rfl rfl) rfl rfl hl.1 rfl (lv_room (Nat.le_of_ble_eq_true rfl)) dX9_lookAfterHanding_8 ⟨Nat.zero_le _, Nat.zero_le _⟩) hS (pW_sub rfl) (fun H locs hB hS _ hk8 => ?_)
  have hT := hB
  refine lv_aload_n hx hb dX9_lookAfterHanding_11 rfl (lv_at hl 0 rfl) ?_
  refine ti_getE (ci := 9) (v := .ref v1) hx hb hts inlX9 hown hK (hm1.call hk8 (pW_not ha0 rfl)) rfl (by decide) (hts _ kw_30) (fun _ h9 => h9) dX9_lookAfterHanding_12 ?_
  refine lv_iload_n hx hb dX9_lookAfterHanding_15 rfl (lv_at hl 1 rfl) ?_
  refine lv_iload_n hx hb dX9_lookAfterHanding_16 rfl (lv_at hl 2 rfl) ?_
  refine lv_iload_n hx hb dX9_lookAfterHanding_17 rfl (lv_at hl 3 rfl) ?_
  refine ti_callv (va_runV (As := [.int x1, .int x2, .int x3]) (rest := []) ⟨hx, hb, hml, hown, hts⟩ (t_X4_hand l hT hv1 (iv_w hx1 (by decide)) (iv_w hx2 (by decide)) (iv_w hx3 (by decide))) (cwV 3 hts (good_V kw_1040 kw_1041 kw_1042 kw_29 kw_1043) rfl rfl rfl (by decide +kernel) ⟨by rw [hR]; decide, by rw [hR]; decide⟩) (ti_preV hK hT hv1 rfl rfl) rfl rfl hl.1 rfl (lv_room (Nat.le_of_ble_eq_true rfl)) dX9_lookAfterHanding_18 ⟨Nat.zero_le _, Nat.zero_le _⟩) hS (pW_sub rfl) (fun H locs hB hS _ hk18 => ?_)
  have hT := hB
  refine lv_aload_n hx hb dX9_lookAfterHanding_21 rfl (lv_at hl 0 rfl) ?_
  refine ti_getE (ci := 9) (v := .ref v1) hx hb hts inlX9 hown hK ((hm1.call hk8 (pW_not ha0 rfl)).call hk18 (pW_not ha0 rfl)) rfl (by decide) (hts _ kw_30) (fun _ h9 => h9) dX9_lookAfterHanding_22 ?_
  refine lv_aload_n hx hb dX9_lookAfterHanding_25 rfl (lv_at hl 0 rfl) ?_
  refine ti_getE (ci := 9) (v := .ref v5) hx hb hts inlX9 hown hK ((hm5.call hk8 (pW_not ha0 rfl)).call hk18 (pW_not ha0 rfl)) rfl (by decide) (hts _ kw_20) (fun _ h9 => h9) dX9_lookAfterHanding_26 ?_
  refine ti_getr hx hb hts inlX7 hown hK hT hv5 rfl rfl rfl 6 (by decide) (hts _ kw_575) (fun _ h9 => h9) rfl dX9_lookAfterHanding_29 (fun v29 hv29 hm29 => ?_)
  refine ti_callv (va_runV (As := [.ref v29]) (rest := []) ⟨hx, hb, hml, hown, hts⟩ (t_X4_look l hT hv1 hv29) (cwV 1 hts (good_V kw_589 kw_590 kw_591 kw_29 kw_592) rfl rfl rfl (by decide +kernel) ⟨by rw [hR]; decide, by rw [hR]; decide⟩) (ti_preV hK hT hv1 rfl rfl) rfl rfl hl.1 rfl (lv_room (Nat.le_of_ble_eq_true rfl)) dX9_lookAfterHanding_32 ⟨Nat.zero_le _, Nat.zero_le _⟩) hS (pW_sub rfl) (fun H locs hB hS _ hk32 => ?_)
  have hT := hB
  exact ret _ _ _ _ dX9_lookAfterHanding_35 (hT) hS
set_option maxHeartbeats 4000000 in
set_option maxRecDepth 100000 in
theorem t_X9_leastSaving (l : Launch) {D : va_G} {c0 : Nat → ClassId} {Y : Nat → Option Nat} {ν : Nat → Nat} {H : Heap} (hT : TI D vwCl (tysOf c0) (RTg ν) Y H) {a0 : Nat} (ha0 : Y a0 = some 9) {x1 : Int32} (hx1 : iv x1 0 7) {x2 : Int32} (hx2 : iv x2 0 7) : Met l yX9_leastSaving (wz yX9_leastSaving cX9_leastSaving 4 (some .int)) { frames := 4, cells := 0, slots := 0, locals := 128 } (TP D vwCl (tysOf c0) H [.ref a0, .int x1, .int x2]) (TQi (fun x H' => TI D vwCl (tysOf c0) (RTg ν) Y H' ∧ iv x (-1) 100000) Y [4, 29]) 0 0 (pW Y [4, 29]) := by
  refine Met.ofW (cc := cX9_leastSaving) (maxL := 4) (ret := (some .int)) (by decide) rfl ?_
  intro p e s m args below meth c s₁ B hml hv
  obtain ⟨rfl, rfl, hK⟩ := hv
  have hx := B.exec
  have hb := B.bytes
  have hr := B.returns
  have hts : ∀ w ∈ wq, w.before _ s = true := fun w h => atoms_spec (ws := wz yX9_leastSaving cX9_leastSaving 4 (some .int)) B.pre w (List.mem_cons_of_mem _ h)
  have hown : s.vm.findClass RX9 = some m.cls := findClass_of_methodNamed B.named
  have hlocks := B.notSynchronized
  obtain ⟨R, hR⟩ : ∃ R : Room, R = ({ frames := 4, cells := 0, slots := 0, locals := 128 } : Room) := ⟨_, rfl⟩
  rw [show (headSpec (wz yX9_leastSaving cX9_leastSaving 4 (some .int)) { frames := 4, cells := 0, slots := 0, locals := 128 }).room = R from hR.symm]
  refine ti_mi hx hb hr hlocks (fun Q ret => ?_)
  have hl := lv_entry [.ref a0, .int x1, .int x2] (n := 4) (Nat.le_of_ble_eq_true rfl)
  rw [lg_entry_eq]
  generalize (lg_sl [.ref a0, .int x1, .int x2] ++ List.replicate (4 - (lg_sl [.ref a0, .int x1, .int x2]).length) Slot.unset).toArray = ls at hl ⊢
  have hl : lv_has ls 4 [(0, .ref a0), (1, .int x1), (2, .int x2)] := hl
  refine ti_gen (P := fun H => TI D vwCl (tysOf c0) (RTg ν) Y H) (Y := Y) (ws := [4, 29]) hT (fun H locs hT hS => ?_)
  refine lv_iconst (v := 0) hx hb dX9_leastSaving_0 (by decide) ?_
  have J2 : ∀ (n : Nat) (j2_L3 : Int32) (H : Heap) (locs : List Loc) (ls : Array Slot), (100001 - j2_L3.toInt).toNat < n → iv j2_L3 0 100001 → TI D vwCl (tysOf c0) (RTg ν) Y H → va_S (pW Y [4, 29]) s.heap H locs → lv_has ls 4 [(0, .ref a0), (1, .int x1), (2, .int x2), (3, .int j2_L3)] → W p l e R s m ([.ref a0, .int x1, .int x2] : List Value).toArray below meth c H locs 0 0 Q (F0 m 2 ls []) := by
    intro n
    induction n with
    | zero => intro j2_L3 H locs ls hms; exact absurd hms (Nat.not_lt_zero _)
    | succ n ih2 =>
      intro j2_L3 H locs ls hms2 hj2_L3 hT hS hl
      refine lv_iload_n hx hb dX9_leastSaving_2 rfl (lv_at hl 3 rfl) ?_
      refine lv_aload_n hx hb dX9_leastSaving_3 rfl (lv_at hl 0 rfl) ?_
      refine ti_getr hx hb hts inlX9 hown hK hT ha0 rfl rfl rfl 1 (by decide) (hts _ kw_20) (fun _ h9 => h9) rfl dX9_leastSaving_4 (fun v4 hv4 hm4 => ?_)
      refine ti_getr hx hb hts inlX7 hown hK hT hv4 rfl rfl rfl 8 (by decide) (hts _ kw_471) (fun _ h9 => h9) rfl dX9_leastSaving_7 (fun v7 hv7 hm7 => ?_)
      refine lv_iload_n hx hb dX9_leastSaving_10 rfl (lv_at hl 1 rfl) ?_
      refine ti_aald hx hb (aT6 hK) hT hv7 rfl hx1 (by decide) (fun _ _ _ => rfl) dX9_leastSaving_11 (fun v11 hv11 => ?_)
      refine ti_geti hx hb hts inlX3 hown hK hT hv11 rfl rfl rfl 0 (by decide) (hts _ kw_472) (fun _ h9 => h9) rfl dX9_leastSaving_12 (fun v12 hv12 hm12 => ?_)
      refine lv_icmp_gt (tgt := 44) hx hb dX9_leastSaving_15 (by decide) (fun c15 => ?_) (fun c15 => ?_)
      · skip
        have f15 := i_lt c15
        refine lv_iconst (v := (-1)) hx hb dX9_leastSaving_44 (by decide) ?_
        exact ret _ _ _ _ _ dX9_leastSaving_45 (⟨hT, iv_w (iv_c (x := (-1 : Int32)) (k := (-1)) (by decide)) (by decide)⟩) hS
      · skip
        have f15 := i_nlt c15
        have hj2_L3_15l : iv j2_L3 0 100000 := iv_lel hj2_L3 hv12 (Int32.not_lt.mp c15) (by decide)
        have hv12_15r : iv v12 0 100000 := iv_ler hj2_L3_15l hv12 (Int32.not_lt.mp c15) (by decide)
        refine lv_aload_n hx hb dX9_leastSaving_18 rfl (lv_at hl 0 rfl) ?_
        refine lv_iload_n hx hb dX9_leastSaving_19 rfl (lv_at hl 1 rfl) ?_
        refine lv_iload_n hx hb dX9_leastSaving_20 rfl (lv_at hl 2 rfl) ?_
        refine lv_iload_n hx hb dX9_leastSaving_21 rfl (lv_at hl 3 rfl) ?_
        refine ti_callv (va_runV (As := [.int x1, .int x2, .int j2_L3]) (rest := []) ⟨hx, hb, hml, hown, hts⟩ (t_X9_lookAfterHanding l hT ha0 (iv_w hx1 (by decide)) (iv_w hx2 (by decide)) (iv_w hj2_L3_15l (by decide))) (cwV 3 hts (good_V kw_1036 kw_1037 kw_1038 kw_2 kw_1039) rfl rfl rfl (by decide +kernel) ⟨by rw [hR]; decide, by rw [hR]; decide⟩) (ti_preV hK hT ha0 rfl rfl) rfl rfl hl.1 rfl (lv_room (Nat.le_of_ble_eq_true rfl)) dX9_leastSaving_22 ⟨Nat.zero_le _, Nat.zero_le _⟩) hS (pW_sub rfl) (fun H locs hB hS _ hk22 => ?_)
        have hT := hB
        refine lv_aload_n hx hb dX9_leastSaving_25 rfl (lv_at hl 0 rfl) ?_
        refine ti_getr hx hb hts inlX9 hown hK hT ha0 rfl rfl rfl 6 (by decide) (hts _ kw_30) (fun _ h9 => h9) rfl dX9_leastSaving_26 (fun v26 hv26 hm26 => ?_)
        refine lv_iload_n hx hb dX9_leastSaving_29 rfl (lv_at hl 1 rfl) ?_
        refine ti_calli (va_runV (As := [.int x1]) (rest := []) ⟨hx, hb, hml, hown, hts⟩ (t_X4_lossOf l hT hv26 (iv_w hx1 (by decide))) (cwV 1 hts (good_V kw_637 kw_638 kw_639 kw_29 kw_640) rfl rfl rfl (by decide +kernel) ⟨by rw [hR]; decide, by rw [hR]; decide⟩) (ti_preV hK hT hv26 rfl rfl) rfl rfl hl.1 rfl (lv_room (Nat.le_of_ble_eq_true rfl)) dX9_leastSaving_30 ⟨Nat.zero_le _, Nat.zero_le _⟩) hS (pW_sub rfl) (fun v30 H1 locs hB hS _ hk30 => ?_)
        have hH := hB
        rw [hH] at hS ⊢
        refine lv_if_ne (tgt := 38) hx hb dX9_leastSaving_33 (by decide) (fun c33 => ?_) (fun c33 => ?_)
        · skip
          have kl0 : (0 : Int32).toInt = 0 := by decide
          have f33 := i_ne c33
          obtain ⟨v38, e38⟩ : ∃ y : Int32, y = j2_L3 + 1 := ⟨_, rfl⟩
          have hv38 : iv v38 1 100001 := by rw [e38]; exact iv_w (iv_add hj2_L3_15l (iv_c (x := (1 : Int32)) (k := 1) (by decide)) (by decide)) (by decide)
          have s38 : v38.toInt = j2_L3.toInt + 1 := by rw [e38, iv_addE hj2_L3_15l (iv_c (x := (1 : Int32)) (k := 1) (by decide)) (by decide)]; rfl
          refine lv_iinc (v := v38) (lv' := [(3, .int v38), (0, .ref a0), (1, .int x1), (2, .int x2)]) hx hb dX9_leastSaving_38 hl (k := 3) rfl (by rw [e38]; rfl) (by decide) rfl (fun ls hl => ?_)
          refine lv_goto (tgt := 2) hx hb dX9_leastSaving_41 (by decide) ?_
          exact ih2 v38 _ _ _ (ms_up hms2 (by have := s38; omega) (iv_w (c := 1) (d := 100001) hv38 (by decide)).2) (iv_w hv38 (by decide)) hT hS (lv_sub hl [1, 2, 3, 0] rfl)
        · skip
          have kl0 : (0 : Int32).toInt = 0 := by decide
          have f33 := i_eq c33
          have hv30_33l : iv v30 0 0 := iv_eql (iv_top v30) (iv_c (x := (0 : Int32)) (k := 0) (by decide)) c33 (by decide)
          refine lv_iload_n hx hb dX9_leastSaving_36 rfl (lv_at hl 3 rfl) ?_
          exact ret _ _ _ _ _ dX9_leastSaving_37 (⟨hT, iv_w hj2_L3_15l (by decide)⟩) hS
  refine lv_istore_n (lv' := [(3, .int (0 : Int32)), (0, .ref a0), (1, .int x1), (2, .int x2)]) hx hb dX9_leastSaving_1 rfl hl (by decide) rfl (fun ls hl => ?_)
  exact J2 _ (0 : Int32) _ _ _ (Nat.lt_succ_self _) (iv_w (iv_c (x := (0 : Int32)) (k := 0) (by decide)) (by decide)) hT hS (lv_sub hl [1, 2, 3, 0] rfl)
set_option maxHeartbeats 4000000 in
set_option maxRecDepth 100000 in
theorem t_X9_gift (l : Launch) {D : va_G} {c0 : Nat → ClassId} {Y : Nat → Option Nat} {ν : Nat → Nat} {H : Heap} (hT : TI D vwCl (tysOf c0) (RTg ν) Y H) {a0 : Nat} (ha0 : Y a0 = some 9) {x1 : Int32} (hx1 : iv x1 (-2147483648) 2147483647) {x2 : Int32} (hx2 : iv x2 (-2147483648) 2147483647) : Met l yX9_gift (wz yX9_gift cX9_gift 3 (some .int)) { frames := 5, cells := 0, slots := 0, locals := 151 } (TP D vwCl (tysOf c0) H [.ref a0, .int x1, .int x2]) (TQi (fun x H' => TI D vwCl (tysOf c0) (RTg ν) Y H' ∧ iv x (-2) 100000) Y [4, 29]) 0 0 (pW Y [4, 29]) := by
  refine Met.ofW (cc := cX9_gift) (maxL := 3) (ret := (some .int)) (by decide) rfl ?_
  intro p e s m args below meth c s₁ B hml hv
  obtain ⟨rfl, rfl, hK⟩ := hv
  have hx := B.exec
  have hb := B.bytes
  have hr := B.returns
  have hts : ∀ w ∈ wq, w.before _ s = true := fun w h => atoms_spec (ws := wz yX9_gift cX9_gift 3 (some .int)) B.pre w (List.mem_cons_of_mem _ h)
  have hown : s.vm.findClass RX9 = some m.cls := findClass_of_methodNamed B.named
  have hlocks := B.notSynchronized
  obtain ⟨R, hR⟩ : ∃ R : Room, R = ({ frames := 5, cells := 0, slots := 0, locals := 151 } : Room) := ⟨_, rfl⟩
  rw [show (headSpec (wz yX9_gift cX9_gift 3 (some .int)) { frames := 5, cells := 0, slots := 0, locals := 151 }).room = R from hR.symm]
  refine ti_mi hx hb hr hlocks (fun Q ret => ?_)
  have hl := lv_entry [.ref a0, .int x1, .int x2] (n := 3) (Nat.le_of_ble_eq_true rfl)
  rw [lg_entry_eq]
  generalize (lg_sl [.ref a0, .int x1, .int x2] ++ List.replicate (3 - (lg_sl [.ref a0, .int x1, .int x2]).length) Slot.unset).toArray = ls at hl ⊢
  have hl : lv_has ls 3 [(0, .ref a0), (1, .int x1), (2, .int x2)] := hl
  refine ti_gen (P := fun H => TI D vwCl (tysOf c0) (RTg ν) Y H) (Y := Y) (ws := [4, 29]) hT (fun H locs hT hS => ?_)
  refine lv_aload_n hx hb dX9_gift_0 rfl (lv_at hl 0 rfl) ?_
  refine lv_iload_n hx hb dX9_gift_1 rfl (lv_at hl 1 rfl) ?_
  refine lv_iload_n hx hb dX9_gift_2 rfl (lv_at hl 2 rfl) ?_
  refine ti_calli (va_runV (As := [.int x1, .int x2]) (rest := []) ⟨hx, hb, hml, hown, hts⟩ (t_X9_arePair l hT ha0 (iv_w hx1 (by decide)) (iv_w hx2 (by decide))) (cwV 2 hts (good_V kw_529 kw_530 kw_531 kw_2 kw_532) rfl rfl rfl (by decide +kernel) ⟨by rw [hR]; decide, by rw [hR]; decide⟩) (ti_preV hK hT ha0 rfl rfl) rfl rfl hl.1 rfl (lv_room (Nat.le_of_ble_eq_true rfl)) dX9_gift_3 ⟨Nat.zero_le _, Nat.zero_le _⟩) hS (pW_sub rfl) (fun v3 H1 locs hB hS _ hk3 => ?_)
  obtain ⟨hH, hv3, hp3⟩ := hB
  rw [hH] at hS ⊢
  refine lv_if_eq (tgt := 18) hx hb dX9_gift_6 (by decide) (fun c6 => ?_) (fun c6 => ?_)
  · skip
    have kl0 : (0 : Int32).toInt = 0 := by decide
    have f6 := i_eq c6
    have hv3_6l : iv v3 0 0 := iv_eql hv3 (iv_c (x := (0 : Int32)) (k := 0) (by decide)) c6 (by decide)
    refine lv_bipush (v := (-2)) hx hb dX9_gift_18 (by decide) ?_
    exact ret _ _ _ _ _ dX9_gift_20 (⟨hT, iv_w (iv_c (x := (-2 : Int32)) (k := (-2)) (by decide)) (by decide)⟩) hS
  · skip
    have kl0 : (0 : Int32).toInt = 0 := by decide
    have f6 := i_ne c6
    have hv3_6l : iv v3 1 1 := iv_nel hv3 (iv_c (x := (0 : Int32)) (k := 0) (by decide)) c6 (by decide)
    have hx1_6p : iv x1 0 7 := by have b0a := (hx1).1; have b0b := (hx1).2; exact ⟨by omega, by omega⟩
    have hx2_6p : iv x2 0 7 := by have b0a := (hx2).1; have b0b := (hx2).2; exact ⟨by omega, by omega⟩
    refine lv_aload_n hx hb dX9_gift_9 rfl (lv_at hl 0 rfl) ?_
    refine lv_iload_n hx hb dX9_gift_10 rfl (lv_at hl 1 rfl) ?_
    refine lv_iload_n hx hb dX9_gift_11 rfl (lv_at hl 2 rfl) ?_
    refine ti_calli (va_runV (As := [.int x1, .int x2]) (rest := []) ⟨hx, hb, hml, hown, hts⟩ (t_X9_leastSaving l hT ha0 (iv_w hx1_6p (by decide)) (iv_w hx2_6p (by decide))) (cwV 2 hts (good_V kw_1032 kw_1033 kw_1034 kw_2 kw_1035) rfl rfl rfl (by decide +kernel) ⟨by rw [hR]; decide, by rw [hR]; decide⟩) (ti_preV hK hT ha0 rfl rfl) rfl rfl hl.1 rfl (lv_room (Nat.le_of_ble_eq_true rfl)) dX9_gift_12 ⟨Nat.zero_le _, Nat.zero_le _⟩) hS (pW_sub rfl) (fun v12 H locs hB hS _ hk12 => ?_)
    obtain ⟨hT, hv12⟩ := hB
    refine lv_goto (tgt := 20) hx hb dX9_gift_15 (by decide) ?_
    exact ret _ _ _ _ _ dX9_gift_20 (⟨hT, iv_w hv12 (by decide)⟩) hS
set_option maxHeartbeats 4000000 in
set_option maxRecDepth 100000 in
theorem t_X9_gifts (l : Launch) {D : va_G} {c0 : Nat → ClassId} {Y : Nat → Option Nat} {ν : Nat → Nat} {H : Heap} (hT : TI D vwCl (tysOf c0) (RTg ν) Y H) {a0 : Nat} (ha0 : Y a0 = some 9) {x1 : Int32} (hx1 : iv x1 (-2147483648) 2147483647) : Met l yX9_gifts (wz yX9_gifts cX9_gifts 6 (some .int)) { frames := 5, cells := 0, slots := 0, locals := 151 } (TP D vwCl (tysOf c0) H [.ref a0, .int x1]) (TQi (fun x H' => TI D vwCl (tysOf c0) (RTg ν) Y H' ∧ iv x (-2) 7) Y [4, 29]) 0 0 (pW Y [4, 29]) := by
  refine Met.ofW (cc := cX9_gifts) (maxL := 6) (ret := (some .int)) (by decide) rfl ?_
  intro p e s m args below meth c s₁ B hml hv
  obtain ⟨rfl, rfl, hK⟩ := hv
  have hx := B.exec
  have hb := B.bytes
  have hr := B.returns
  have hts : ∀ w ∈ wq, w.before _ s = true := fun w h => atoms_spec (ws := wz yX9_gifts cX9_gifts 6 (some .int)) B.pre w (List.mem_cons_of_mem _ h)
  have hown : s.vm.findClass RX9 = some m.cls := findClass_of_methodNamed B.named
  have hlocks := B.notSynchronized
  obtain ⟨R, hR⟩ : ∃ R : Room, R = ({ frames := 5, cells := 0, slots := 0, locals := 151 } : Room) := ⟨_, rfl⟩
  rw [show (headSpec (wz yX9_gifts cX9_gifts 6 (some .int)) { frames := 5, cells := 0, slots := 0, locals := 151 }).room = R from hR.symm]
  refine ti_mi hx hb hr hlocks (fun Q ret => ?_)
  have hl := lv_entry [.ref a0, .int x1] (n := 6) (Nat.le_of_ble_eq_true rfl)
  rw [lg_entry_eq]
  generalize (lg_sl [.ref a0, .int x1] ++ List.replicate (6 - (lg_sl [.ref a0, .int x1]).length) Slot.unset).toArray = ls at hl ⊢
  have hl : lv_has ls 6 [(0, .ref a0), (1, .int x1)] := hl
  refine ti_gen (P := fun H => TI D vwCl (tysOf c0) (RTg ν) Y H) (Y := Y) (ws := [4, 29]) hT (fun H locs hT hS => ?_)
  refine lv_aload_n hx hb dX9_gifts_0 rfl (lv_at hl 0 rfl) ?_
  refine lv_iload_n hx hb dX9_gifts_1 rfl (lv_at hl 1 rfl) ?_
  refine lv_i2l hx hb dX9_gifts_2 rfl ?_
  refine lv_topl (fun v2 e2 => ?_)
  have hv2 : jv v2 (-2147483648) 2147483647 := by rw [e2]; exact jv_i hx1
  have t2 : v2.toInt = x1.toInt := by rw [e2]; exact jv_e _
  refine ti_calli (va_runV (As := [.long v2]) (rest := []) ⟨hx, hb, hml, hown, hts⟩ (t_X9_isPerson l hT ha0 (jv_w hv2 (by decide))) (cwV 1 hts (good_V kw_476 kw_477 kw_478 kw_2 kw_479) rfl rfl rfl (by decide +kernel) ⟨by rw [hR]; decide, by rw [hR]; decide⟩) (ti_preV hK hT ha0 rfl rfl) rfl rfl hl.1 rfl (lv_room (Nat.le_of_ble_eq_true rfl)) dX9_gifts_3 ⟨Nat.zero_le _, Nat.zero_le _⟩) hS (pW_sub rfl) (fun v3 H1 locs hB hS _ hk3 => ?_)
  obtain ⟨hH, hv3, hp3⟩ := hB
  rw [hH] at hS ⊢
  refine lv_if_ne (tgt := 12) hx hb dX9_gifts_6 (by decide) (fun c6 => ?_) (fun c6 => ?_)
  · skip
    have kl0 : (0 : Int32).toInt = 0 := by decide
    have f6 := i_ne c6
    have hv3_6l : iv v3 1 1 := iv_nel hv3 (iv_c (x := (0 : Int32)) (k := 0) (by decide)) c6 (by decide)
    have hv2_6p : jv v2 0 7 := by have b0a := (hv2).1; have b0b := (hv2).2; exact ⟨by omega, by omega⟩
    have hx1_6p : iv x1 0 7 := by have := t2; have b0a := (hv2_6p).1; have b0b := (hv2_6p).2; have b1a := (hx1).1; have b1b := (hx1).2; exact ⟨by omega, by omega⟩
    refine lv_iconst (v := (-1)) hx hb dX9_gifts_12 (by decide) ?_
    refine lv_istore_n (lv' := [(2, .int (-1 : Int32)), (0, .ref a0), (1, .int x1)]) hx hb dX9_gifts_13 rfl hl (by decide) rfl (fun ls hl => ?_)
    refine lv_iconst (v := (-1)) hx hb dX9_gifts_14 (by decide) ?_
    refine lv_istore_n (lv' := [(3, .int (-1 : Int32)), (2, .int (-1 : Int32)), (0, .ref a0), (1, .int x1)]) hx hb dX9_gifts_15 rfl hl (by decide) rfl (fun ls hl => ?_)
    refine lv_iconst (v := 0) hx hb dX9_gifts_16 (by decide) ?_
    have J19 : ∀ (n : Nat) (j19_L2 : Int32) (j19_L3 : Int32) (j19_L4 : Int32) (H : Heap) (locs : List Loc) (ls : Array Slot), (8 - j19_L4.toInt).toNat < n → iv j19_L2 (-1) 7 → iv j19_L3 (-1) 100000 → iv j19_L4 0 8 → TI D vwCl (tysOf c0) (RTg ν) Y H → va_S (pW Y [4, 29]) s.heap H locs → lv_has ls 6 [(0, .ref a0), (1, .int x1), (2, .int j19_L2), (3, .int j19_L3), (4, .int j19_L4)] → W p l e R s m ([.ref a0, .int x1] : List Value).toArray below meth c H locs 0 0 Q (F0 m 19 ls []) := by
      intro n
      induction n with
      | zero => intro j19_L2 j19_L3 j19_L4 H locs ls hms; exact absurd hms (Nat.not_lt_zero _)
      | succ n ih19 =>
        intro j19_L2 j19_L3 j19_L4 H locs ls hms19 hj19_L2 hj19_L3 hj19_L4 hT hS hl
        refine lv_iload hx hb dX9_gifts_19 (lv_at hl 4 rfl) ?_
        refine lv_aload_n hx hb dX9_gifts_21 rfl (lv_at hl 0 rfl) ?_
        refine ti_getr hx hb hts inlX9 hown hK hT ha0 rfl rfl rfl 1 (by decide) (hts _ kw_20) (fun _ h9 => h9) rfl dX9_gifts_22 (fun v22 hv22 hm22 => ?_)
        refine ti_geti hx hb hts inlX7 hown hK hT hv22 rfl rfl rfl 1 (by decide) (hts _ kw_480) (fun _ h9 => h9) rfl dX9_gifts_25 (fun v25 hv25 hm25 => ?_)
        refine lv_icmp_ge (tgt := 79) hx hb dX9_gifts_28 (by decide) (fun c28 => ?_) (fun c28 => ?_)
        · skip
          have f28 := i_le c28
          refine lv_iload_n hx hb dX9_gifts_79 rfl (lv_at hl 2 rfl) ?_
          exact ret _ _ _ _ _ dX9_gifts_80 (⟨hT, iv_w hj19_L2 (by decide)⟩) hS
        · skip
          have f28 := i_nle c28
          have hj19_L4_28l : iv j19_L4 0 7 := iv_ltl hj19_L4 hv25 (Int32.not_le.mp c28) (by decide)
          have hv25_28r : iv v25 1 8 := iv_ltr hj19_L4_28l hv25 (Int32.not_le.mp c28) (by decide)
          refine lv_iload hx hb dX9_gifts_31 (lv_at hl 4 rfl) ?_
          refine lv_iload_n hx hb dX9_gifts_33 rfl (lv_at hl 1 rfl) ?_
          have J48 : ∀ (j48_S0 : Int32) (H : Heap) (locs : List Loc) (ls : Array Slot), iv j48_S0 (-1) 100000 → TI D vwCl (tysOf c0) (RTg ν) Y H → va_S (pW Y [4, 29]) s.heap H locs → lv_has ls 6 [(0, .ref a0), (1, .int x1), (2, .int j19_L2), (3, .int j19_L3), (4, .int j19_L4)] → W p l e R s m ([.ref a0, .int x1] : List Value).toArray below meth c H locs 0 0 Q (F0 m 48 ls [.int j48_S0]) := by
            intro j48_S0 H locs ls hj48_S0 hT hS hl
            refine lv_istore (lv' := [(5, .int j48_S0), (0, .ref a0), (1, .int x1), (2, .int j19_L2), (3, .int j19_L3), (4, .int j19_L4)]) hx hb dX9_gifts_48 hl (by decide) rfl (fun ls hl => ?_)
            refine lv_iload hx hb dX9_gifts_50 (lv_at hl 0 rfl) ?_
            refine lv_iconst (v := (-1)) hx hb dX9_gifts_52 (by decide) ?_
            have J73 : ∀ (j73_L2 : Int32) (j73_L3 : Int32) (H : Heap) (locs : List Loc) (ls : Array Slot), iv j73_L2 (-1) 7 → iv j73_L3 (-1) 100000 → TI D vwCl (tysOf c0) (RTg ν) Y H → va_S (pW Y [4, 29]) s.heap H locs → lv_has ls 6 [(0, .ref a0), (1, .int x1), (2, .int j73_L2), (3, .int j73_L3), (4, .int j19_L4), (5, .int j48_S0)] → W p l e R s m ([.ref a0, .int x1] : List Value).toArray below meth c H locs 0 0 Q (F0 m 73 ls []) := by
              intro j73_L2 j73_L3 H locs ls hj73_L2 hj73_L3 hT hS hl
              obtain ⟨v73, e73⟩ : ∃ y : Int32, y = j19_L4 + 1 := ⟨_, rfl⟩
              have hv73 : iv v73 1 8 := by rw [e73]; exact iv_w (iv_add hj19_L4_28l (iv_c (x := (1 : Int32)) (k := 1) (by decide)) (by decide)) (by decide)
              have s73 : v73.toInt = j19_L4.toInt + 1 := by rw [e73, iv_addE hj19_L4_28l (iv_c (x := (1 : Int32)) (k := 1) (by decide)) (by decide)]; rfl
              refine lv_iinc (v := v73) (lv' := [(4, .int v73), (0, .ref a0), (1, .int x1), (2, .int j73_L2), (3, .int j73_L3), (5, .int j48_S0)]) hx hb dX9_gifts_73 hl (k := 4) rfl (by rw [e73]; rfl) (by decide) rfl (fun ls hl => ?_)
              refine lv_goto (tgt := 19) hx hb dX9_gifts_76 (by decide) ?_
              exact ih19 j73_L2 j73_L3 v73 _ _ _ (ms_up hms19 (by have := s73; omega) (iv_w (c := 1) (d := 8) hv73 (by decide)).2) (iv_w hj73_L2 (by decide)) (iv_w hj73_L3 (by decide)) (iv_w hv73 (by decide)) hT hS (lv_sub hl [1, 2, 3, 4, 0] rfl)
            refine lv_icmp_eq (tgt := 73) hx hb dX9_gifts_53 (by decide) (fun c53 => ?_) (fun c53 => ?_)
            · skip
              have klm1 : (-1 : Int32).toInt = (-1) := by decide
              have f53 := i_eq c53
              have hj48_S0_53l : iv j48_S0 (-1) (-1) := iv_eql hj48_S0 (iv_c (x := (-1 : Int32)) (k := (-1)) (by decide)) c53 (by decide)
              exact J73 j19_L2 j19_L3 _ _ _  (iv_w hj19_L2 (by decide)) (iv_w hj19_L3 (by decide)) hT hS (lv_sub hl [1, 2, 3, 4, 5, 0] rfl)
            · skip
              have klm1 : (-1 : Int32).toInt = (-1) := by decide
              have f53 := i_ne c53
              have hj48_S0_53l : iv j48_S0 0 100000 := iv_nel hj48_S0 (iv_c (x := (-1 : Int32)) (k := (-1)) (by decide)) c53 (by decide)
              refine lv_iload_n hx hb dX9_gifts_56 rfl (lv_at hl 4 rfl) ?_
              refine lv_iconst (v := (-1)) hx hb dX9_gifts_57 (by decide) ?_
              have J67 : ∀  (H : Heap) (locs : List Loc) (ls : Array Slot), TI D vwCl (tysOf c0) (RTg ν) Y H → va_S (pW Y [4, 29]) s.heap H locs → lv_has ls 6 [(0, .ref a0), (1, .int x1), (2, .int j19_L2), (3, .int j19_L3), (4, .int j19_L4), (5, .int j48_S0)] → W p l e R s m ([.ref a0, .int x1] : List Value).toArray below meth c H locs 0 0 Q (F0 m 67 ls []) := by
                intro  H locs ls  hT hS hl
                refine lv_iload hx hb dX9_gifts_67 (lv_at hl 5 rfl) ?_
                refine lv_istore_n (lv' := [(3, .int j48_S0), (0, .ref a0), (1, .int x1), (2, .int j19_L2), (4, .int j19_L4), (5, .int j48_S0)]) hx hb dX9_gifts_69 rfl hl (by decide) rfl (fun ls hl => ?_)
                refine lv_iload hx hb dX9_gifts_70 (lv_at hl 4 rfl) ?_
                refine lv_istore_n (lv' := [(2, .int j19_L4), (3, .int j48_S0), (0, .ref a0), (1, .int x1), (4, .int j19_L4), (5, .int j48_S0)]) hx hb dX9_gifts_72 rfl hl (by decide) rfl (fun ls hl => ?_)
                exact J73 j19_L4 j48_S0 _ _ _  (iv_w hj19_L4_28l (by decide)) (iv_w hj48_S0_53l (by decide)) hT hS (lv_sub hl [2, 3, 0, 1, 4, 5] rfl)
              refine lv_icmp_eq (tgt := 67) hx hb dX9_gifts_58 (by decide) (fun c58 => ?_) (fun c58 => ?_)
              · skip
                have f58 := i_eq c58
                have hj19_L3_58l : iv j19_L3 (-1) (-1) := iv_eql hj19_L3 (iv_c (x := (-1 : Int32)) (k := (-1)) (by decide)) c58 (by decide)
                exact J67  _ _ _   hT hS (lv_sub hl [1, 2, 3, 4, 5, 0] rfl)
              · skip
                have f58 := i_ne c58
                have hj19_L3_58l : iv j19_L3 0 100000 := iv_nel hj19_L3 (iv_c (x := (-1 : Int32)) (k := (-1)) (by decide)) c58 (by decide)
                refine lv_iload hx hb dX9_gifts_61 (lv_at hl 0 rfl) ?_
                refine lv_iload_n hx hb dX9_gifts_63 rfl (lv_at hl 4 rfl) ?_
                refine lv_icmp_ge (tgt := 73) hx hb dX9_gifts_64 (by decide) (fun c64 => ?_) (fun c64 => ?_)
                · skip
                  have f64 := i_le c64
                  exact J73 j19_L2 j19_L3 _ _ _  (iv_w hj19_L2 (by decide)) (iv_w hj19_L3_58l (by decide)) hT hS (lv_sub hl [1, 2, 3, 4, 5, 0] rfl)
                · skip
                  have f64 := i_nle c64
                  have hj48_S0_64l : iv j48_S0 0 99999 := iv_ltl hj48_S0_53l hj19_L3_58l (Int32.not_le.mp c64) (by decide)
                  have hj19_L3_64r : iv j19_L3 1 100000 := iv_ltr hj48_S0_64l hj19_L3_58l (Int32.not_le.mp c64) (by decide)
                  exact J67  _ _ _   hT hS (lv_sub hl [1, 2, 3, 4, 5, 0] rfl)
          refine lv_icmp_ne (tgt := 41) hx hb dX9_gifts_34 (by decide) (fun c34 => ?_) (fun c34 => ?_)
          · skip
            have f34 := i_ne c34
            refine lv_aload_n hx hb dX9_gifts_41 rfl (lv_at hl 0 rfl) ?_
            refine lv_iload_n hx hb dX9_gifts_42 rfl (lv_at hl 1 rfl) ?_
            refine lv_iload hx hb dX9_gifts_43 (lv_at hl 4 rfl) ?_
            refine ti_calli (va_runV (As := [.int x1, .int j19_L4]) (rest := []) ⟨hx, hb, hml, hown, hts⟩ (t_X9_leastSaving l hT ha0 (iv_w hx1_6p (by decide)) (iv_w hj19_L4_28l (by decide))) (cwV 2 hts (good_V kw_1032 kw_1033 kw_1034 kw_2 kw_1035) rfl rfl rfl (by decide +kernel) ⟨by rw [hR]; decide, by rw [hR]; decide⟩) (ti_preV hK hT ha0 rfl rfl) rfl rfl hl.1 rfl (lv_room (Nat.le_of_ble_eq_true rfl)) dX9_gifts_45 ⟨Nat.zero_le _, Nat.zero_le _⟩) hS (pW_sub rfl) (fun v45 H locs hB hS _ hk45 => ?_)
            obtain ⟨hT, hv45⟩ := hB
            exact J48 v45 _ _ _  (iv_w hv45 (by decide)) hT hS (lv_sub hl [0, 1, 2, 3, 4] rfl)
          · skip
            have f34 := i_eq c34
            refine lv_iconst (v := (-1)) hx hb dX9_gifts_37 (by decide) ?_
            refine lv_goto (tgt := 48) hx hb dX9_gifts_38 (by decide) ?_
            exact J48 (-1 : Int32) _ _ _  (iv_w (iv_c (x := (-1 : Int32)) (k := (-1)) (by decide)) (by decide)) hT hS (lv_sub hl [0, 1, 2, 3, 4] rfl)
    refine lv_istore (lv' := [(4, .int (0 : Int32)), (3, .int (-1 : Int32)), (2, .int (-1 : Int32)), (0, .ref a0), (1, .int x1)]) hx hb dX9_gifts_17 hl (by decide) rfl (fun ls hl => ?_)
    exact J19 _ (-1 : Int32) (-1 : Int32) (0 : Int32) _ _ _ (Nat.lt_succ_self _) (iv_w (iv_c (x := (-1 : Int32)) (k := (-1)) (by decide)) (by decide)) (iv_w (iv_c (x := (-1 : Int32)) (k := (-1)) (by decide)) (by decide)) (iv_w (iv_c (x := (0 : Int32)) (k := 0) (by decide)) (by decide)) hT hS (lv_sub hl [3, 4, 2, 1, 0] rfl)
  · skip
    have kl0 : (0 : Int32).toInt = 0 := by decide
    have f6 := i_eq c6
    have hv3_6l : iv v3 0 0 := iv_eql hv3 (iv_c (x := (0 : Int32)) (k := 0) (by decide)) c6 (by decide)
    refine lv_bipush (v := (-2)) hx hb dX9_gifts_9 (by decide) ?_
    exact ret _ _ _ _ _ dX9_gifts_11 (⟨hT, iv_w (iv_c (x := (-2 : Int32)) (k := (-2)) (by decide)) (by decide)⟩) hS
set_option maxHeartbeats 4000000 in
set_option maxRecDepth 100000 in
theorem t_X9_restlessBits (l : Launch) {D : va_G} {c0 : Nat → ClassId} {Y : Nat → Option Nat} {ν : Nat → Nat} {H : Heap} (hT : TI D vwCl (tysOf c0) (RTg ν) Y H) {a0 : Nat} (ha0 : Y a0 = some 9) {a1 : Nat} (ha1 : Y a1 = some 7) : Met l yX9_restlessBits (wz yX9_restlessBits cX9_restlessBits 4 (some .int)) { frames := 5, cells := 0, slots := 0, locals := 140 } (TP D vwCl (tysOf c0) H [.ref a0, .ref a1]) (TQi (fun x H' => TI D vwCl (tysOf c0) (RTg ν) Y H') Y [2, 4, 29]) 0 0 (pW Y [2, 4, 29]) := by
  refine Met.ofW (cc := cX9_restlessBits) (maxL := 4) (ret := (some .int)) (by decide) rfl ?_
  intro p e s m args below meth c s₁ B hml hv
  obtain ⟨rfl, rfl, hK⟩ := hv
  have hx := B.exec
  have hb := B.bytes
  have hr := B.returns
  have hts : ∀ w ∈ wq, w.before _ s = true := fun w h => atoms_spec (ws := wz yX9_restlessBits cX9_restlessBits 4 (some .int)) B.pre w (List.mem_cons_of_mem _ h)
  have hown : s.vm.findClass RX9 = some m.cls := findClass_of_methodNamed B.named
  have hlocks := B.notSynchronized
  obtain ⟨R, hR⟩ : ∃ R : Room, R = ({ frames := 5, cells := 0, slots := 0, locals := 140 } : Room) := ⟨_, rfl⟩
  rw [show (headSpec (wz yX9_restlessBits cX9_restlessBits 4 (some .int)) { frames := 5, cells := 0, slots := 0, locals := 140 }).room = R from hR.symm]
  refine ti_mi hx hb hr hlocks (fun Q ret => ?_)
  have hl := lv_entry [.ref a0, .ref a1] (n := 4) (Nat.le_of_ble_eq_true rfl)
  rw [lg_entry_eq]
  generalize (lg_sl [.ref a0, .ref a1] ++ List.replicate (4 - (lg_sl [.ref a0, .ref a1]).length) Slot.unset).toArray = ls at hl ⊢
  have hl : lv_has ls 4 [(0, .ref a0), (1, .ref a1)] := hl
  refine ti_gen (P := fun H => TI D vwCl (tysOf c0) (RTg ν) Y H) (Y := Y) (ws := [2, 4, 29]) hT (fun H locs hT hS => ?_)
  refine lv_iconst (v := 0) hx hb dX9_restlessBits_0 (by decide) ?_
  refine lv_istore_n (lv' := [(2, .int (0 : Int32)), (0, .ref a0), (1, .ref a1)]) hx hb dX9_restlessBits_1 rfl hl (by decide) rfl (fun ls hl => ?_)
  refine lv_iconst (v := 0) hx hb dX9_restlessBits_2 (by decide) ?_
  have J4 : ∀ (n : Nat) (j4_L2 : Int32) (j4_L3 : Int32) (H : Heap) (locs : List Loc) (ls : Array Slot), (8 - j4_L3.toInt).toNat < n → iv j4_L2 (-2147483648) 2147483647 → iv j4_L3 0 8 → TI D vwCl (tysOf c0) (RTg ν) Y H → va_S (pW Y [2, 4, 29]) s.heap H locs → lv_has ls 4 [(0, .ref a0), (1, .ref a1), (2, .int j4_L2), (3, .int j4_L3)] → W p l e R s m ([.ref a0, .ref a1] : List Value).toArray below meth c H locs 0 0 Q (F0 m 4 ls []) := by
    intro n
    induction n with
    | zero => intro j4_L2 j4_L3 H locs ls hms; exact absurd hms (Nat.not_lt_zero _)
    | succ n ih4 =>
      intro j4_L2 j4_L3 H locs ls hms4 hj4_L2 hj4_L3 hT hS hl
      refine lv_iload_n hx hb dX9_restlessBits_4 rfl (lv_at hl 3 rfl) ?_
      refine lv_aload_n hx hb dX9_restlessBits_5 rfl (lv_at hl 1 rfl) ?_
      refine ti_geti hx hb hts inlX7 hown hK hT ha1 rfl rfl rfl 1 (by decide) (hts _ kw_480) (fun _ h9 => h9) rfl dX9_restlessBits_6 (fun v6 hv6 hm6 => ?_)
      refine lv_icmp_ge (tgt := 36) hx hb dX9_restlessBits_9 (by decide) (fun c9 => ?_) (fun c9 => ?_)
      · skip
        have f9 := i_le c9
        refine lv_iload_n hx hb dX9_restlessBits_36 rfl (lv_at hl 2 rfl) ?_
        exact ret _ _ _ _ _ dX9_restlessBits_37 (hT) hS
      · skip
        have f9 := i_nle c9
        have hj4_L3_9l : iv j4_L3 0 7 := iv_ltl hj4_L3 hv6 (Int32.not_le.mp c9) (by decide)
        have hv6_9r : iv v6 1 8 := iv_ltr hj4_L3_9l hv6 (Int32.not_le.mp c9) (by decide)
        refine lv_aload_n hx hb dX9_restlessBits_12 rfl (lv_at hl 0 rfl) ?_
        refine ti_getr hx hb hts inlX9 hown hK hT ha0 rfl rfl rfl 7 (by decide) (hts _ kw_34) (fun _ h9 => h9) rfl dX9_restlessBits_13 (fun v13 hv13 hm13 => ?_)
        refine lv_aload_n hx hb dX9_restlessBits_16 rfl (lv_at hl 1 rfl) ?_
        refine lv_iload_n hx hb dX9_restlessBits_17 rfl (lv_at hl 3 rfl) ?_
        refine ti_calli (va_runV (As := [.ref a1, .int j4_L3]) (rest := []) ⟨hx, hb, hml, hown, hts⟩ (t_X2_isRestless l hT hv13 ha1 (iv_w hj4_L3_9l (by decide))) (cwV 2 hts (good_V kw_1078 kw_1079 kw_1080 kw_33 kw_1081) rfl rfl rfl (by decide +kernel) ⟨by rw [hR]; decide, by rw [hR]; decide⟩) (ti_preV hK hT hv13 rfl rfl) rfl rfl hl.1 rfl (lv_room (Nat.le_of_ble_eq_true rfl)) dX9_restlessBits_18 ⟨Nat.zero_le _, Nat.zero_le _⟩) hS (pW_sub rfl) (fun v18 H locs hB hS _ hk18 => ?_)
        obtain ⟨hT, hv18⟩ := hB
        have J30 : ∀ (j30_L2 : Int32) (H : Heap) (locs : List Loc) (ls : Array Slot), iv j30_L2 (-2147483648) 2147483647 → TI D vwCl (tysOf c0) (RTg ν) Y H → va_S (pW Y [2, 4, 29]) s.heap H locs → lv_has ls 4 [(0, .ref a0), (1, .ref a1), (2, .int j30_L2), (3, .int j4_L3)] → W p l e R s m ([.ref a0, .ref a1] : List Value).toArray below meth c H locs 0 0 Q (F0 m 30 ls []) := by
          intro j30_L2 H locs ls hj30_L2 hT hS hl
          obtain ⟨v30, e30⟩ : ∃ y : Int32, y = j4_L3 + 1 := ⟨_, rfl⟩
          have hv30 : iv v30 1 8 := by rw [e30]; exact iv_w (iv_add hj4_L3_9l (iv_c (x := (1 : Int32)) (k := 1) (by decide)) (by decide)) (by decide)
          have s30 : v30.toInt = j4_L3.toInt + 1 := by rw [e30, iv_addE hj4_L3_9l (iv_c (x := (1 : Int32)) (k := 1) (by decide)) (by decide)]; rfl
          refine lv_iinc (v := v30) (lv' := [(3, .int v30), (0, .ref a0), (1, .ref a1), (2, .int j30_L2)]) hx hb dX9_restlessBits_30 hl (k := 3) rfl (by rw [e30]; rfl) (by decide) rfl (fun ls hl => ?_)
          refine lv_goto (tgt := 4) hx hb dX9_restlessBits_33 (by decide) ?_
          exact ih4 j30_L2 v30 _ _ _ (ms_up hms4 (by have := s30; omega) (iv_w (c := 1) (d := 8) hv30 (by decide)).2) (iv_w hj30_L2 (by decide)) (iv_w hv30 (by decide)) hT hS (lv_sub hl [1, 2, 3, 0] rfl)
        refine lv_if_eq (tgt := 30) hx hb dX9_restlessBits_21 (by decide) (fun c21 => ?_) (fun c21 => ?_)
        · skip
          have kl0 : (0 : Int32).toInt = 0 := by decide
          have f21 := i_eq c21
          have hv18_21l : iv v18 0 0 := iv_eql hv18 (iv_c (x := (0 : Int32)) (k := 0) (by decide)) c21 (by decide)
          exact J30 j4_L2 _ _ _  (iv_w hj4_L2 (by decide)) hT hS (lv_sub hl [0, 1, 2, 3] rfl)
        · skip
          have kl0 : (0 : Int32).toInt = 0 := by decide
          have f21 := i_ne c21
          have hv18_21l : iv v18 1 1 := iv_nel hv18 (iv_c (x := (0 : Int32)) (k := 0) (by decide)) c21 (by decide)
          refine lv_iload_n hx hb dX9_restlessBits_24 rfl (lv_at hl 2 rfl) ?_
          refine lv_iconst (v := 1) hx hb dX9_restlessBits_25 (by decide) ?_
          refine lv_iload_n hx hb dX9_restlessBits_26 rfl (lv_at hl 3 rfl) ?_
          refine lv_ishl hx hb dX9_restlessBits_27 ?_
          refine lv_topi (fun v27 e27 => ?_)
          have hv27 : iv v27 (-2147483648) 2147483647 := iv_top _
          refine lv_ior hx hb dX9_restlessBits_28 ?_
          refine lv_topi (fun v28 e28 => ?_)
          have hv28 : iv v28 (-2147483648) 2147483647 := iv_top _
          refine lv_istore_n (lv' := [(2, .int v28), (0, .ref a0), (1, .ref a1), (3, .int j4_L3)]) hx hb dX9_restlessBits_29 rfl hl (by decide) rfl (fun ls hl => ?_)
          exact J30 v28 _ _ _  (iv_w hv28 (by decide)) hT hS (lv_sub hl [1, 2, 0, 3] rfl)
  refine lv_istore_n (lv' := [(3, .int (0 : Int32)), (2, .int (0 : Int32)), (0, .ref a0), (1, .ref a1)]) hx hb dX9_restlessBits_3 rfl hl (by decide) rfl (fun ls hl => ?_)
  exact J4 _ (0 : Int32) (0 : Int32) _ _ _ (Nat.lt_succ_self _) (iv_w (iv_c (x := (0 : Int32)) (k := 0) (by decide)) (by decide)) (iv_w (iv_c (x := (0 : Int32)) (k := 0) (by decide)) (by decide)) hT hS (lv_sub hl [2, 3, 1, 0] rfl)
set_option maxHeartbeats 4000000 in
set_option maxRecDepth 100000 in
theorem t_X9_restless (l : Launch) {D : va_G} {c0 : Nat → ClassId} {Y : Nat → Option Nat} {ν : Nat → Nat} {H : Heap} (hT : TI D vwCl (tysOf c0) (RTg ν) Y H) {a0 : Nat} (ha0 : Y a0 = some 9) : Met l yX9_restless (wz yX9_restless cX9_restless 1 (some .int)) { frames := 6, cells := 0, slots := 0, locals := 163 } (TP D vwCl (tysOf c0) H [.ref a0]) (TQi (fun x H' => TI D vwCl (tysOf c0) (RTg ν) Y H') Y [2, 4, 29]) 0 0 (pW Y [2, 4, 29]) := by
  refine Met.ofW (cc := cX9_restless) (maxL := 1) (ret := (some .int)) (by decide) rfl ?_
  intro p e s m args below meth c s₁ B hml hv
  obtain ⟨rfl, rfl, hK⟩ := hv
  have hx := B.exec
  have hb := B.bytes
  have hr := B.returns
  have hts : ∀ w ∈ wq, w.before _ s = true := fun w h => atoms_spec (ws := wz yX9_restless cX9_restless 1 (some .int)) B.pre w (List.mem_cons_of_mem _ h)
  have hown : s.vm.findClass RX9 = some m.cls := findClass_of_methodNamed B.named
  have hlocks := B.notSynchronized
  obtain ⟨R, hR⟩ : ∃ R : Room, R = ({ frames := 6, cells := 0, slots := 0, locals := 163 } : Room) := ⟨_, rfl⟩
  rw [show (headSpec (wz yX9_restless cX9_restless 1 (some .int)) { frames := 6, cells := 0, slots := 0, locals := 163 }).room = R from hR.symm]
  refine ti_mi hx hb hr hlocks (fun Q ret => ?_)
  have hl := lv_entry [.ref a0] (n := 1) (Nat.le_of_ble_eq_true rfl)
  rw [lg_entry_eq]
  generalize (lg_sl [.ref a0] ++ List.replicate (1 - (lg_sl [.ref a0]).length) Slot.unset).toArray = ls at hl ⊢
  have hl : lv_has ls 1 [(0, .ref a0)] := hl
  refine ti_gen (P := fun H => TI D vwCl (tysOf c0) (RTg ν) Y H) (Y := Y) (ws := [2, 4, 29]) hT (fun H locs hT hS => ?_)
  refine lv_aload_n hx hb dX9_restless_0 rfl (lv_at hl 0 rfl) ?_
  refine ti_getr hx hb hts inlX9 hown hK hT ha0 rfl rfl rfl 1 (by decide) (hts _ kw_20) (fun _ h9 => h9) rfl dX9_restless_1 (fun v1 hv1 hm1 => ?_)
  refine ti_geti hx hb hts inlX7 hown hK hT hv1 rfl rfl rfl 1 (by decide) (hts _ kw_480) (fun _ h9 => h9) rfl dX9_restless_4 (fun v4 hv4 hm4 => ?_)
  refine lv_if_ne (tgt := 15) hx hb dX9_restless_7 (by decide) (fun c7 => ?_) (fun c7 => ?_)
  · skip
    have kl0 : (0 : Int32).toInt = 0 := by decide
    have f7 := i_ne c7
    have hv4_7l : iv v4 1 8 := iv_nel hv4 (iv_c (x := (0 : Int32)) (k := 0) (by decide)) c7 (by decide)
    refine lv_aload_n hx hb dX9_restless_15 rfl (lv_at hl 0 rfl) ?_
    refine lv_aload_n hx hb dX9_restless_16 rfl (lv_at hl 0 rfl) ?_
    refine ti_getE (ci := 9) (v := .ref v1) hx hb hts inlX9 hown hK hm1 rfl (by decide) (hts _ kw_20) (fun _ h9 => h9) dX9_restless_17 ?_
    refine ti_calli (va_runV (As := [.ref v1]) (rest := []) ⟨hx, hb, hml, hown, hts⟩ (t_X9_restlessBits l hT ha0 hv1) (cwV 1 hts (good_V kw_1074 kw_1075 kw_1076 kw_2 kw_1077) rfl rfl rfl (by decide +kernel) ⟨by rw [hR]; decide, by rw [hR]; decide⟩) (ti_preV hK hT ha0 rfl rfl) rfl rfl hl.1 rfl (lv_room (Nat.le_of_ble_eq_true rfl)) dX9_restless_20 ⟨Nat.zero_le _, Nat.zero_le _⟩) hS (pW_sub rfl) (fun v20 H locs hB hS _ hk20 => ?_)
    have hT := hB
    exact ret _ _ _ _ _ dX9_restless_23 (hT) hS
  · skip
    have kl0 : (0 : Int32).toInt = 0 := by decide
    have f7 := i_eq c7
    have hv4_7l : iv v4 0 0 := iv_eql hv4 (iv_c (x := (0 : Int32)) (k := 0) (by decide)) c7 (by decide)
    refine lv_bipush (v := (-2)) hx hb dX9_restless_10 (by decide) ?_
    refine lv_goto (tgt := 23) hx hb dX9_restless_12 (by decide) ?_
    exact ret _ _ _ _ _ dX9_restless_23 (hT) hS
set_option maxHeartbeats 4000000 in
set_option maxRecDepth 100000 in
theorem t_X9_rests (l : Launch) {D : va_G} {c0 : Nat → ClassId} {Y : Nat → Option Nat} {ν : Nat → Nat} {H : Heap} (hT : TI D vwCl (tysOf c0) (RTg ν) Y H) {a0 : Nat} (ha0 : Y a0 = some 9) {x1 : Int32} (hx1 : iv x1 (-2147483648) 2147483647) : Met l yX9_rests (wz yX9_rests cX9_rests 9 (some .int)) { frames := 6, cells := 0, slots := 0, locals := 163 } (TP D vwCl (tysOf c0) H [.ref a0, .int x1]) (TQi (fun x H' => TI D vwCl (tysOf c0) (RTg ν) Y H') Y [0, 1, 2, 3, 4, 7, 20, 22, 28, 29]) 0 0 (pW Y [0, 1, 2, 3, 4, 7, 20, 22, 28, 29]) := by
  refine Met.ofW (cc := cX9_rests) (maxL := 9) (ret := (some .int)) (by decide) rfl ?_
  intro p e s m args below meth c s₁ B hml hv
  obtain ⟨rfl, rfl, hK⟩ := hv
  have hx := B.exec
  have hb := B.bytes
  have hr := B.returns
  have hts : ∀ w ∈ wq, w.before _ s = true := fun w h => atoms_spec (ws := wz yX9_rests cX9_rests 9 (some .int)) B.pre w (List.mem_cons_of_mem _ h)
  have hown : s.vm.findClass RX9 = some m.cls := findClass_of_methodNamed B.named
  have hlocks := B.notSynchronized
  obtain ⟨R, hR⟩ : ∃ R : Room, R = ({ frames := 6, cells := 0, slots := 0, locals := 163 } : Room) := ⟨_, rfl⟩
  rw [show (headSpec (wz yX9_rests cX9_rests 9 (some .int)) { frames := 6, cells := 0, slots := 0, locals := 163 }).room = R from hR.symm]
  refine ti_mi hx hb hr hlocks (fun Q ret => ?_)
  have hl := lv_entry [.ref a0, .int x1] (n := 9) (Nat.le_of_ble_eq_true rfl)
  rw [lg_entry_eq]
  generalize (lg_sl [.ref a0, .int x1] ++ List.replicate (9 - (lg_sl [.ref a0, .int x1]).length) Slot.unset).toArray = ls at hl ⊢
  have hl : lv_has ls 9 [(0, .ref a0), (1, .int x1)] := hl
  refine ti_gen (P := fun H => TI D vwCl (tysOf c0) (RTg ν) Y H) (Y := Y) (ws := [0, 1, 2, 3, 4, 7, 20, 22, 28, 29]) hT (fun H locs hT hS => ?_)
  refine lv_iload_n hx hb dX9_rests_0 rfl (lv_at hl 1 rfl) ?_
  refine lv_iconst (v := 1) hx hb dX9_rests_1 (by decide) ?_
  refine lv_icmp_lt (tgt := 33) hx hb dX9_rests_2 (by decide) (fun c2 => ?_) (fun c2 => ?_)
  · skip
    have kl1 : (1 : Int32).toInt = 1 := by decide
    have f2 := i_lt c2
    have hx1_2l : iv x1 (-2147483648) 0 := iv_ltl hx1 (iv_c (x := (1 : Int32)) (k := 1) (by decide)) c2 (by decide)
    refine lv_bipush (v := (-2)) hx hb dX9_rests_33 (by decide) ?_
    exact ret _ _ _ _ _ dX9_rests_35 (hT) hS
  · skip
    have kl1 : (1 : Int32).toInt = 1 := by decide
    have f2 := i_nlt c2
    have hx1_2r : iv x1 1 2147483647 := iv_ler (iv_c (x := (1 : Int32)) (k := 1) (by decide)) hx1 (Int32.not_lt.mp c2) (by decide)
    refine lv_iload_n hx hb dX9_rests_5 rfl (lv_at hl 1 rfl) ?_
    refine lv_bipush (v := 6) hx hb dX9_rests_6 (by decide) ?_
    refine lv_icmp_gt (tgt := 33) hx hb dX9_rests_8 (by decide) (fun c8 => ?_) (fun c8 => ?_)
    · skip
      have kl6 : (6 : Int32).toInt = 6 := by decide
      have f8 := i_lt c8
      have hx1_8r : iv x1 7 2147483647 := iv_ltr (iv_c (x := (6 : Int32)) (k := 6) (by decide)) hx1_2r c8 (by decide)
      refine lv_bipush (v := (-2)) hx hb dX9_rests_33 (by decide) ?_
      exact ret _ _ _ _ _ dX9_rests_35 (hT) hS
    · skip
      have kl6 : (6 : Int32).toInt = 6 := by decide
      have f8 := i_nlt c8
      have hx1_8l : iv x1 1 6 := iv_lel hx1_2r (iv_c (x := (6 : Int32)) (k := 6) (by decide)) (Int32.not_lt.mp c8) (by decide)
      refine lv_aload_n hx hb dX9_rests_11 rfl (lv_at hl 0 rfl) ?_
      refine ti_getr hx hb hts inlX9 hown hK hT ha0 rfl rfl rfl 1 (by decide) (hts _ kw_20) (fun _ h9 => h9) rfl dX9_rests_12 (fun v12 hv12 hm12 => ?_)
      refine ti_geti hx hb hts inlX7 hown hK hT hv12 rfl rfl rfl 1 (by decide) (hts _ kw_480) (fun _ h9 => h9) rfl dX9_rests_15 (fun v15 hv15 hm15 => ?_)
      refine lv_iconst (v := 1) hx hb dX9_rests_18 (by decide) ?_
      refine lv_icmp_lt (tgt := 33) hx hb dX9_rests_19 (by decide) (fun c19 => ?_) (fun c19 => ?_)
      · skip
        have f19 := i_lt c19
        have hv15_19l : iv v15 0 0 := iv_ltl hv15 (iv_c (x := (1 : Int32)) (k := 1) (by decide)) c19 (by decide)
        refine lv_bipush (v := (-2)) hx hb dX9_rests_33 (by decide) ?_
        exact ret _ _ _ _ _ dX9_rests_35 (hT) hS
      · skip
        have f19 := i_nlt c19
        have hv15_19r : iv v15 1 8 := iv_ler (iv_c (x := (1 : Int32)) (k := 1) (by decide)) hv15 (Int32.not_lt.mp c19) (by decide)
        refine lv_aload_n hx hb dX9_rests_22 rfl (lv_at hl 0 rfl) ?_
        refine ti_getE (ci := 9) (v := .ref v12) hx hb hts inlX9 hown hK hm12 rfl (by decide) (hts _ kw_20) (fun _ h9 => h9) dX9_rests_23 ?_
        refine ti_getE (ci := 7) (v := .int v15) hx hb hts inlX7 hown hK hm15 rfl (by decide) (hts _ kw_480) (fun _ h9 => h9) dX9_rests_26 ?_
        refine lv_iconst (v := 3) hx hb dX9_rests_29 (by decide) ?_
        refine lv_icmp_le (tgt := 36) hx hb dX9_rests_30 (by decide) (fun c30 => ?_) (fun c30 => ?_)
        · skip
          have kl3 : (3 : Int32).toInt = 3 := by decide
          have f30 := i_le c30
          have hv15_30l : iv v15 1 3 := iv_lel hv15_19r (iv_c (x := (3 : Int32)) (k := 3) (by decide)) c30 (by decide)
          refine lv_aload_n hx hb dX9_rests_36 rfl (lv_at hl 0 rfl) ?_
          refine ti_callr (va_runV (As := []) (rest := []) ⟨hx, hb, hml, hown, hts⟩ (t_X9_startThought l hT ha0) (cwV 0 hts (good_V kw_802 kw_803 kw_804 kw_2 kw_805) rfl rfl rfl (by decide +kernel) ⟨by rw [hR]; decide, by rw [hR]; decide⟩) (ti_preV hK hT ha0 rfl rfl) rfl rfl hl.1 rfl (lv_room (Nat.le_of_ble_eq_true rfl)) dX9_rests_37 ⟨Nat.zero_le _, Nat.zero_le _⟩) hS (pW_sub rfl) (fun v37 H locs hB hS _ hk37 => ?_)
          obtain ⟨hT, hv37⟩ := hB
          refine lv_astore_n (lv' := [(2, .ref v37), (0, .ref a0), (1, .int x1)]) hx hb dX9_rests_40 rfl hl (by decide) rfl (fun ls hl => ?_)
          refine lv_iconst (v := 1) hx hb dX9_rests_41 (by decide) ?_
          refine lv_iload_n hx hb dX9_rests_42 rfl (lv_at hl 2 rfl) ?_
          refine lv_aload_n hx hb dX9_rests_43 rfl (lv_at hl 1 rfl) ?_
          refine ti_getE (ci := 9) (v := .ref v12) hx hb hts inlX9 hown hK (hm12.call hk37 (pW_not ha0 rfl)) rfl (by decide) (hts _ kw_20) (fun _ h9 => h9) dX9_rests_44 ?_
          refine ti_geti hx hb hts inlX7 hown hK hT hv12 rfl rfl rfl 0 (by decide) (hts _ kw_498) (fun _ h9 => h9) rfl dX9_rests_47 (fun v47 hv47 hm47 => ?_)
          refine va_mmin hx hb (by rw [hml]; exact hl.1.symm) hown (hts _ kw_519) (hts _ kw_211) (hts _ kw_212) (hts _ kw_213) (by rw [hR]; decide) (by rw [hR]; exact Nat.le_of_ble_eq_true rfl) (Nat.zero_le _) (Nat.zero_le _) dX9_rests_50 ?_
          refine lv_topi (fun v50 e50 => ?_)
          have hv50 : iv v50 (-2147483648) 6 := by rw [e50]; exact iv_min hx1_8l hv47 (by decide)
          refine lv_iconst (v := 1) hx hb dX9_rests_53 (by decide) ?_
          refine lv_iadd hx hb dX9_rests_54 ?_
          refine lv_topi (fun v54 e54 => ?_)
          have hv54 : iv v54 (-2147483647) 7 := by rw [e54]; exact iv_w (iv_add hv50 (iv_c (x := (1 : Int32)) (k := 1) (by decide)) (by decide)) (by decide)
          have s54 : v54.toInt = v50.toInt + 1 := by rw [e54, iv_addE hv50 (iv_c (x := (1 : Int32)) (k := 1) (by decide)) (by decide)]; rfl
          refine va_mmax hx hb (by rw [hml]; exact hl.1.symm) hown (hts _ kw_1101) (hts _ kw_618) (hts _ kw_212) (hts _ kw_619) (by rw [hR]; decide) (by rw [hR]; exact Nat.le_of_ble_eq_true rfl) (Nat.zero_le _) (Nat.zero_le _) dX9_rests_55 ?_
          refine lv_topi (fun v55 e55 => ?_)
          have hv55 : iv v55 1 7 := by rw [e55]; exact iv_max (iv_c (x := (1 : Int32)) (k := 1) (by decide)) hv54 (by decide)
          refine lv_istore_n (lv' := [(3, .int v55), (2, .ref v37), (0, .ref a0), (1, .int x1)]) hx hb dX9_rests_58 rfl hl (by decide) rfl (fun ls hl => ?_)
          refine lv_iconst (v := 1) hx hb dX9_rests_59 (by decide) ?_
          refine lv_istore (lv' := [(4, .int (1 : Int32)), (3, .int v55), (2, .ref v37), (0, .ref a0), (1, .int x1)]) hx hb dX9_rests_60 hl (by decide) rfl (fun ls hl => ?_)
          refine lv_iconst (v := 0) hx hb dX9_rests_62 (by decide) ?_
          have J65 : ∀ (n : Nat) (j65_L4 : Int32) (j65_L5 : Int32) (H : Heap) (locs : List Loc) (ls : Array Slot), (8 - j65_L5.toInt).toNat < n → iv j65_L4 (-2147483648) 2147483647 → iv j65_L5 0 8 → TI D vwCl (tysOf c0) (RTg ν) Y H → va_S (pW Y [0, 1, 2, 3, 4, 7, 20, 22, 28, 29]) s.heap H locs → lv_has ls 9 [(0, .ref a0), (1, .int x1), (2, .ref v37), (3, .int v55), (4, .int j65_L4), (5, .int j65_L5)] → W p l e R s m ([.ref a0, .int x1] : List Value).toArray below meth c H locs 0 0 Q (F0 m 65 ls []) := by
            intro n
            induction n with
            | zero => intro j65_L4 j65_L5 H locs ls hms; exact absurd hms (Nat.not_lt_zero _)
            | succ n ih65 =>
              intro j65_L4 j65_L5 H locs ls hms65 hj65_L4 hj65_L5 hT hS hl
              refine lv_iload hx hb dX9_rests_65 (lv_at hl 5 rfl) ?_
              refine lv_aload_n hx hb dX9_rests_67 rfl (lv_at hl 0 rfl) ?_
              refine ti_getr hx hb hts inlX9 hown hK hT ha0 rfl rfl rfl 1 (by decide) (hts _ kw_20) (fun _ h9 => h9) rfl dX9_rests_68 (fun v68 hv68 hm68 => ?_)
              refine ti_geti hx hb hts inlX7 hown hK hT hv68 rfl rfl rfl 1 (by decide) (hts _ kw_480) (fun _ h9 => h9) rfl dX9_rests_71 (fun v71 hv71 hm71 => ?_)
              refine lv_icmp_ge (tgt := 100) hx hb dX9_rests_74 (by decide) (fun c74 => ?_) (fun c74 => ?_)
              · skip
                have f74 := i_le c74
                refine lv_iconst (v := 0) hx hb dX9_rests_100 (by decide) ?_
                refine lv_istore (lv' := [(5, .int (0 : Int32)), (0, .ref a0), (1, .int x1), (2, .ref v37), (3, .int v55), (4, .int j65_L4)]) hx hb dX9_rests_101 hl (by decide) rfl (fun ls hl => ?_)
                refine lv_iconst (v := 0) hx hb dX9_rests_103 (by decide) ?_
                have J106 : ∀ (n : Nat) (j106_L5 : Int32) (j106_L6 : Int32) (H : Heap) (locs : List Loc) (ls : Array Slot), (2147483647 - j106_L6.toInt).toNat < n → iv j106_L5 (-2147483648) 2147483647 → iv j106_L6 0 2147483647 → TI D vwCl (tysOf c0) (RTg ν) Y H → va_S (pW Y [0, 1, 2, 3, 4, 7, 20, 22, 28, 29]) s.heap H locs → lv_has ls 9 [(0, .ref a0), (1, .int x1), (2, .ref v37), (3, .int v55), (4, .int j65_L4), (5, .int j106_L5), (6, .int j106_L6)] → W p l e R s m ([.ref a0, .int x1] : List Value).toArray below meth c H locs 0 0 Q (F0 m 106 ls []) := by
                  intro n
                  induction n with
                  | zero => intro j106_L5 j106_L6 H locs ls hms; exact absurd hms (Nat.not_lt_zero _)
                  | succ n ih106 =>
                    intro j106_L5 j106_L6 H locs ls hms106 hj106_L5 hj106_L6 hT hS hl
                    refine lv_iload hx hb dX9_rests_106 (lv_at hl 6 rfl) ?_
                    refine lv_iload hx hb dX9_rests_108 (lv_at hl 4 rfl) ?_
                    refine lv_icmp_ge (tgt := 175) hx hb dX9_rests_110 (by decide) (fun c110 => ?_) (fun c110 => ?_)
                    · skip
                      have f110 := i_le c110
                      refine lv_iload hx hb dX9_rests_175 (lv_at hl 5 rfl) ?_
                      exact ret _ _ _ _ _ dX9_rests_177 (hT) hS
                    · skip
                      have f110 := i_nle c110
                      have hj106_L6_110l : iv j106_L6 0 2147483646 := iv_ltl hj106_L6 hj65_L4 (Int32.not_le.mp c110) (by decide)
                      have hj65_L4_110r : iv j65_L4 1 2147483647 := iv_ltr hj106_L6_110l hj65_L4 (Int32.not_le.mp c110) (by decide)
                      refine lv_iload hx hb dX9_rests_113 (lv_at hl 6 rfl) ?_
                      refine lv_istore (lv' := [(7, .int j106_L6), (0, .ref a0), (1, .int x1), (2, .ref v37), (3, .int v55), (4, .int j65_L4), (5, .int j106_L5), (6, .int j106_L6)]) hx hb dX9_rests_115 hl (by decide) rfl (fun ls hl => ?_)
                      refine lv_iconst (v := 0) hx hb dX9_rests_117 (by decide) ?_
                      have J120 : ∀ (n : Nat) (j120_L7 : Int32) (j120_L8 : Int32) (H : Heap) (locs : List Loc) (ls : Array Slot), (8 - j120_L8.toInt).toNat < n → iv j120_L7 0 2147483647 → iv j120_L8 0 8 → TI D vwCl (tysOf c0) (RTg ν) Y H → va_S (pW Y [0, 1, 2, 3, 4, 7, 20, 22, 28, 29]) s.heap H locs → lv_has ls 9 [(0, .ref a0), (1, .int x1), (2, .ref v37), (3, .int v55), (4, .int j65_L4), (5, .int j106_L5), (6, .int j106_L6), (7, .int j120_L7), (8, .int j120_L8)] → W p l e R s m ([.ref a0, .int x1] : List Value).toArray below meth c H locs 0 0 Q (F0 m 120 ls []) := by
                        intro n
                        induction n with
                        | zero => intro j120_L7 j120_L8 H locs ls hms; exact absurd hms (Nat.not_lt_zero _)
                        | succ n ih120 =>
                          intro j120_L7 j120_L8 H locs ls hms120 hj120_L7 hj120_L8 hT hS hl
                          refine lv_iload hx hb dX9_rests_120 (lv_at hl 8 rfl) ?_
                          refine lv_aload_n hx hb dX9_rests_122 rfl (lv_at hl 0 rfl) ?_
                          refine ti_getr hx hb hts inlX9 hown hK hT ha0 rfl rfl rfl 1 (by decide) (hts _ kw_20) (fun _ h9 => h9) rfl dX9_rests_123 (fun v123 hv123 hm123 => ?_)
                          refine ti_geti hx hb hts inlX7 hown hK hT hv123 rfl rfl rfl 1 (by decide) (hts _ kw_480) (fun _ h9 => h9) rfl dX9_rests_126 (fun v126 hv126 hm126 => ?_)
                          refine lv_icmp_ge (tgt := 158) hx hb dX9_rests_129 (by decide) (fun c129 => ?_) (fun c129 => ?_)
                          · skip
                            have f129 := i_le c129
                            refine lv_aload_n hx hb dX9_rests_158 rfl (lv_at hl 0 rfl) ?_
                            refine lv_aload_n hx hb dX9_rests_159 rfl (lv_at hl 2 rfl) ?_
                            refine ti_calli (va_runV (As := [.ref v37]) (rest := []) ⟨hx, hb, hml, hown, hts⟩ (t_X9_restlessBits l hT ha0 hv37) (cwV 1 hts (good_V kw_1074 kw_1075 kw_1076 kw_2 kw_1077) rfl rfl rfl (by decide +kernel) ⟨by rw [hR]; decide, by rw [hR]; decide⟩) (ti_preV hK hT ha0 rfl rfl) rfl rfl hl.1 rfl (lv_room (Nat.le_of_ble_eq_true rfl)) dX9_rests_160 ⟨Nat.zero_le _, Nat.zero_le _⟩) hS (pW_sub rfl) (fun v160 H locs hB hS _ hk160 => ?_)
                            have hT := hB
                            have J169 : ∀ (j169_L5 : Int32) (H : Heap) (locs : List Loc) (ls : Array Slot), iv j169_L5 (-2147483648) 2147483647 → TI D vwCl (tysOf c0) (RTg ν) Y H → va_S (pW Y [0, 1, 2, 3, 4, 7, 20, 22, 28, 29]) s.heap H locs → lv_has ls 9 [(0, .ref a0), (1, .int x1), (2, .ref v37), (3, .int v55), (4, .int j65_L4), (5, .int j169_L5), (6, .int j106_L6), (7, .int j120_L7), (8, .int j120_L8)] → W p l e R s m ([.ref a0, .int x1] : List Value).toArray below meth c H locs 0 0 Q (F0 m 169 ls []) := by
                              intro j169_L5 H locs ls hj169_L5 hT hS hl
                              obtain ⟨v169, e169⟩ : ∃ y : Int32, y = j106_L6 + 1 := ⟨_, rfl⟩
                              have hv169 : iv v169 1 2147483647 := by rw [e169]; exact iv_w (iv_add hj106_L6_110l (iv_c (x := (1 : Int32)) (k := 1) (by decide)) (by decide)) (by decide)
                              have s169 : v169.toInt = j106_L6.toInt + 1 := by rw [e169, iv_addE hj106_L6_110l (iv_c (x := (1 : Int32)) (k := 1) (by decide)) (by decide)]; rfl
                              refine lv_iinc (v := v169) (lv' := [(6, .int v169), (0, .ref a0), (1, .int x1), (2, .ref v37), (3, .int v55), (4, .int j65_L4), (5, .int j169_L5), (7, .int j120_L7), (8, .int j120_L8)]) hx hb dX9_rests_169 hl (k := 6) rfl (by rw [e169]; rfl) (by decide) rfl (fun ls hl => ?_)
                              refine lv_goto (tgt := 106) hx hb dX9_rests_172 (by decide) ?_
                              exact ih106 j169_L5 v169 _ _ _ (ms_up hms106 (by have := s169; omega) (iv_w (c := 1) (d := 2147483647) hv169 (by decide)).2) (iv_w hj169_L5 (by decide)) (iv_w hv169 (by decide)) hT hS (lv_sub hl [1, 2, 3, 4, 5, 6, 0] rfl)
                            refine lv_if_ne (tgt := 169) hx hb dX9_rests_163 (by decide) (fun c163 => ?_) (fun c163 => ?_)
                            · skip
                              have kl0 : (0 : Int32).toInt = 0 := by decide
                              have f163 := i_ne c163
                              exact J169 j106_L5 _ _ _  (iv_w hj106_L5 (by decide)) hT hS (lv_sub hl [0, 1, 2, 3, 4, 5, 6, 7, 8] rfl)
                            · skip
                              have kl0 : (0 : Int32).toInt = 0 := by decide
                              have f163 := i_eq c163
                              have hv160_163l : iv v160 0 0 := iv_eql (iv_top v160) (iv_c (x := (0 : Int32)) (k := 0) (by decide)) c163 (by decide)
                              obtain ⟨v166, e166⟩ : ∃ y : Int32, y = j106_L5 + 1 := ⟨_, rfl⟩
                              have hv166 : iv v166 (-2147483648) 2147483647 := iv_top _
                              refine lv_iinc (v := v166) (lv' := [(5, .int v166), (0, .ref a0), (1, .int x1), (2, .ref v37), (3, .int v55), (4, .int j65_L4), (6, .int j106_L6), (7, .int j120_L7), (8, .int j120_L8)]) hx hb dX9_rests_166 hl (k := 5) rfl (by rw [e166]; rfl) (by decide) rfl (fun ls hl => ?_)
                              exact J169 v166 _ _ _  (iv_w hv166 (by decide)) hT hS (lv_sub hl [1, 2, 3, 4, 5, 0, 6, 7, 8] rfl)
                          · skip
                            have f129 := i_nle c129
                            have hj120_L8_129l : iv j120_L8 0 7 := iv_ltl hj120_L8 hv126 (Int32.not_le.mp c129) (by decide)
                            have hv126_129r : iv v126 1 8 := iv_ltr hj120_L8_129l hv126 (Int32.not_le.mp c129) (by decide)
                            refine lv_aload_n hx hb dX9_rests_132 rfl (lv_at hl 2 rfl) ?_
                            refine ti_getr hx hb hts inlX7 hown hK hT hv37 rfl rfl rfl 8 (by decide) (hts _ kw_471) (fun _ h9 => h9) rfl dX9_rests_133 (fun v133 hv133 hm133 => ?_)
                            refine lv_iload hx hb dX9_rests_136 (lv_at hl 8 rfl) ?_
                            refine ti_aald hx hb (aT6 hK) hT hv133 rfl hj120_L8_129l (by decide) (fun _ _ _ => rfl) dX9_rests_138 (fun v138 hv138 => ?_)
                            refine lv_iload hx hb dX9_rests_139 (lv_at hl 7 rfl) ?_
                            refine lv_iload_n hx hb dX9_rests_141 rfl (lv_at hl 3 rfl) ?_
                            refine lv_irem hx hb dX9_rests_142 (iv_ne0 hv55 (by decide)) ?_
                            refine lv_topi (fun v142 e142 => ?_)
                            have hv142 : iv v142 0 6 := by rw [e142]; exact iv_rem hj120_L7 hv55 (by decide)
                            refine ti_put (ty := .int) hx hb hts inlX3 tyX3 tyX3_ok nmX3 hown hK hT hS hv138 rfl rfl rfl rfl 0 (by decide) (hts _ kw_472) (fun _ h9 => h9) rfl rfl (by decide +kernel) rfl rfl ⟨v142, rfl, iv_w hv142 (by decide)⟩ (fun _ _ => trivial) dX9_rests_143 (fun H locs hT hS oq143 he143 hk143 => ?_)
                            refine lv_iload hx hb dX9_rests_146 (lv_at hl 7 rfl) ?_
                            refine lv_iload_n hx hb dX9_rests_148 rfl (lv_at hl 3 rfl) ?_
                            refine lv_idiv hx hb dX9_rests_149 (iv_ne0 hv55 (by decide)) ?_
                            refine lv_topi (fun v149 e149 => ?_)
                            have hv149 : iv v149 0 2147483647 := by rw [e149]; exact iv_div hj120_L7 hv55 (by decide)
                            refine lv_istore (lv' := [(7, .int v149), (0, .ref a0), (1, .int x1), (2, .ref v37), (3, .int v55), (4, .int j65_L4), (5, .int j106_L5), (6, .int j106_L6), (8, .int j120_L8)]) hx hb dX9_rests_150 hl (by decide) rfl (fun ls hl => ?_)
                            obtain ⟨v152, e152⟩ : ∃ y : Int32, y = j120_L8 + 1 := ⟨_, rfl⟩
                            have hv152 : iv v152 1 8 := by rw [e152]; exact iv_w (iv_add hj120_L8_129l (iv_c (x := (1 : Int32)) (k := 1) (by decide)) (by decide)) (by decide)
                            have s152 : v152.toInt = j120_L8.toInt + 1 := by rw [e152, iv_addE hj120_L8_129l (iv_c (x := (1 : Int32)) (k := 1) (by decide)) (by decide)]; rfl
                            refine lv_iinc (v := v152) (lv' := [(8, .int v152), (7, .int v149), (0, .ref a0), (1, .int x1), (2, .ref v37), (3, .int v55), (4, .int j65_L4), (5, .int j106_L5), (6, .int j106_L6)]) hx hb dX9_rests_152 hl (k := 8) rfl (by rw [e152]; rfl) (by decide) rfl (fun ls hl => ?_)
                            refine lv_goto (tgt := 120) hx hb dX9_rests_155 (by decide) ?_
                            exact ih120 v149 v152 _ _ _ (ms_up hms120 (by have := s152; omega) (iv_w (c := 1) (d := 8) hv152 (by decide)).2) (iv_w hv149 (by decide)) (iv_w hv152 (by decide)) hT hS (lv_sub hl [2, 3, 4, 5, 6, 7, 8, 1, 0] rfl)
                      refine lv_istore (lv' := [(8, .int (0 : Int32)), (7, .int j106_L6), (0, .ref a0), (1, .int x1), (2, .ref v37), (3, .int v55), (4, .int j65_L4), (5, .int j106_L5), (6, .int j106_L6)]) hx hb dX9_rests_118 hl (by decide) rfl (fun ls hl => ?_)
                      exact J120 _ j106_L6 (0 : Int32) _ _ _ (Nat.lt_succ_self _) (iv_w hj106_L6_110l (by decide)) (iv_w (iv_c (x := (0 : Int32)) (k := 0) (by decide)) (by decide)) hT hS (lv_sub hl [2, 3, 4, 5, 6, 7, 8, 1, 0] rfl)
                refine lv_istore (lv' := [(6, .int (0 : Int32)), (5, .int (0 : Int32)), (0, .ref a0), (1, .int x1), (2, .ref v37), (3, .int v55), (4, .int j65_L4)]) hx hb dX9_rests_104 hl (by decide) rfl (fun ls hl => ?_)
                exact J106 _ (0 : Int32) (0 : Int32) _ _ _ (Nat.lt_succ_self _) (iv_w (iv_c (x := (0 : Int32)) (k := 0) (by decide)) (by decide)) (iv_w (iv_c (x := (0 : Int32)) (k := 0) (by decide)) (by decide)) hT hS (lv_sub hl [2, 3, 4, 5, 6, 1, 0] rfl)
              · skip
                have f74 := i_nle c74
                have hj65_L5_74l : iv j65_L5 0 7 := iv_ltl hj65_L5 hv71 (Int32.not_le.mp c74) (by decide)
                have hv71_74r : iv v71 1 8 := iv_ltr hj65_L5_74l hv71 (Int32.not_le.mp c74) (by decide)
                refine lv_aload_n hx hb dX9_rests_77 rfl (lv_at hl 2 rfl) ?_
                refine ti_getr hx hb hts inlX7 hown hK hT hv37 rfl rfl rfl 8 (by decide) (hts _ kw_471) (fun _ h9 => h9) rfl dX9_rests_78 (fun v78 hv78 hm78 => ?_)
                refine lv_iload hx hb dX9_rests_81 (lv_at hl 5 rfl) ?_
                refine ti_aald hx hb (aT6 hK) hT hv78 rfl hj65_L5_74l (by decide) (fun _ _ _ => rfl) dX9_rests_83 (fun v83 hv83 => ?_)
                refine lv_iconst (v := 0) hx hb dX9_rests_84 (by decide) ?_
                refine ti_put (ty := .int) hx hb hts inlX3 tyX3 tyX3_ok nmX3 hown hK hT hS hv83 rfl rfl rfl rfl 1 (by decide) (hts _ kw_473) (fun _ h9 => h9) rfl rfl (by decide +kernel) rfl rfl ⟨(0 : Int32), rfl, iv_w (iv_c (x := (0 : Int32)) (k := 0) (by decide)) (by decide)⟩ (fun _ _ => trivial) dX9_rests_85 (fun H locs hT hS oq85 he85 hk85 => ?_)
                refine lv_iload hx hb dX9_rests_88 (lv_at hl 4 rfl) ?_
                refine lv_iload_n hx hb dX9_rests_90 rfl (lv_at hl 3 rfl) ?_
                refine lv_imul hx hb dX9_rests_91 ?_
                refine lv_topi (fun v91 e91 => ?_)
                have hv91 : iv v91 (-2147483648) 2147483647 := iv_top _
                refine lv_istore (lv' := [(4, .int v91), (0, .ref a0), (1, .int x1), (2, .ref v37), (3, .int v55), (5, .int j65_L5)]) hx hb dX9_rests_92 hl (by decide) rfl (fun ls hl => ?_)
                obtain ⟨v94, e94⟩ : ∃ y : Int32, y = j65_L5 + 1 := ⟨_, rfl⟩
                have hv94 : iv v94 1 8 := by rw [e94]; exact iv_w (iv_add hj65_L5_74l (iv_c (x := (1 : Int32)) (k := 1) (by decide)) (by decide)) (by decide)
                have s94 : v94.toInt = j65_L5.toInt + 1 := by rw [e94, iv_addE hj65_L5_74l (iv_c (x := (1 : Int32)) (k := 1) (by decide)) (by decide)]; rfl
                refine lv_iinc (v := v94) (lv' := [(5, .int v94), (4, .int v91), (0, .ref a0), (1, .int x1), (2, .ref v37), (3, .int v55)]) hx hb dX9_rests_94 hl (k := 5) rfl (by rw [e94]; rfl) (by decide) rfl (fun ls hl => ?_)
                refine lv_goto (tgt := 65) hx hb dX9_rests_97 (by decide) ?_
                exact ih65 v91 v94 _ _ _ (ms_up hms65 (by have := s94; omega) (iv_w (c := 1) (d := 8) hv94 (by decide)).2) (iv_w hv91 (by decide)) (iv_w hv94 (by decide)) hT hS (lv_sub hl [2, 3, 4, 5, 1, 0] rfl)
          refine lv_istore (lv' := [(5, .int (0 : Int32)), (4, .int (1 : Int32)), (3, .int v55), (2, .ref v37), (0, .ref a0), (1, .int x1)]) hx hb dX9_rests_63 hl (by decide) rfl (fun ls hl => ?_)
          exact J65 _ (1 : Int32) (0 : Int32) _ _ _ (Nat.lt_succ_self _) (iv_w (iv_c (x := (1 : Int32)) (k := 1) (by decide)) (by decide)) (iv_w (iv_c (x := (0 : Int32)) (k := 0) (by decide)) (by decide)) hT hS (lv_sub hl [4, 5, 3, 2, 1, 0] rfl)
        · skip
          have kl3 : (3 : Int32).toInt = 3 := by decide
          have f30 := i_nle c30
          have hv15_30r : iv v15 4 8 := iv_ltr (iv_c (x := (3 : Int32)) (k := 3) (by decide)) hv15_19r (Int32.not_le.mp c30) (by decide)
          refine lv_bipush (v := (-2)) hx hb dX9_rests_33 (by decide) ?_
          exact ret _ _ _ _ _ dX9_rests_35 (hT) hS
set_option maxHeartbeats 4000000 in
set_option maxRecDepth 100000 in
theorem t_X9_turnInThought (l : Launch) {D : va_G} {c0 : Nat → ClassId} {Y : Nat → Option Nat} {ν : Nat → Nat} {H : Heap} (hT : TI D vwCl (tysOf c0) (RTg ν) Y H) {a0 : Nat} (ha0 : Y a0 = some 9) {a1 : Nat} (ha1 : Y a1 = some 7) {x2 : Int32} (hx2 : iv x2 0 7) {x3 : Int32} (hx3 : iv x3 (-2147483648) 2147483647) : Met l yX9_turnInThought (wz yX9_turnInThought cX9_turnInThought 4 none) { frames := 1, cells := 0, slots := 0, locals := 21 } (TP D vwCl (tysOf c0) H [.ref a0, .ref a1, .int x2, .int x3]) (TQv (fun H' => TI D vwCl (tysOf c0) (RTg ν) Y H') Y [3]) 0 0 (pW Y [3]) := by
  refine Met.ofW (cc := cX9_turnInThought) (maxL := 4) (ret := none) (by decide) rfl ?_
  intro p e s m args below meth c s₁ B hml hv
  obtain ⟨rfl, rfl, hK⟩ := hv
  have hx := B.exec
  have hb := B.bytes
  have hr := B.returns
  have hts : ∀ w ∈ wq, w.before _ s = true := fun w h => atoms_spec (ws := wz yX9_turnInThought cX9_turnInThought 4 none) B.pre w (List.mem_cons_of_mem _ h)
  have hown : s.vm.findClass RX9 = some m.cls := findClass_of_methodNamed B.named
  have hlocks := B.notSynchronized
  obtain ⟨R, hR⟩ : ∃ R : Room, R = ({ frames := 1, cells := 0, slots := 0, locals := 21 } : Room) := ⟨_, rfl⟩
  rw [show (headSpec (wz yX9_turnInThought cX9_turnInThought 4 none) { frames := 1, cells := 0, slots := 0, locals := 21 }).room = R from hR.symm]
  refine ti_mv hx hb hr hlocks (fun Q ret => ?_)
  have hl := lv_entry [.ref a0, .ref a1, .int x2, .int x3] (n := 4) (Nat.le_of_ble_eq_true rfl)
  rw [lg_entry_eq]
  generalize (lg_sl [.ref a0, .ref a1, .int x2, .int x3] ++ List.replicate (4 - (lg_sl [.ref a0, .ref a1, .int x2, .int x3]).length) Slot.unset).toArray = ls at hl ⊢
  have hl : lv_has ls 4 [(0, .ref a0), (1, .ref a1), (2, .int x2), (3, .int x3)] := hl
  refine ti_gen (P := fun H => TI D vwCl (tysOf c0) (RTg ν) Y H) (Y := Y) (ws := [3]) hT (fun H locs hT hS => ?_)
  refine lv_aload_n hx hb dX9_turnInThought_0 rfl (lv_at hl 1 rfl) ?_
  refine ti_getr hx hb hts inlX7 hown hK hT ha1 rfl rfl rfl 8 (by decide) (hts _ kw_471) (fun _ h9 => h9) rfl dX9_turnInThought_1 (fun v1 hv1 hm1 => ?_)
  refine lv_iload_n hx hb dX9_turnInThought_4 rfl (lv_at hl 2 rfl) ?_
  refine ti_aald hx hb (aT6 hK) hT hv1 rfl hx2 (by decide) (fun _ _ _ => rfl) dX9_turnInThought_5 (fun v5 hv5 => ?_)
  refine lv_aload_n hx hb dX9_turnInThought_6 rfl (lv_at hl 0 rfl) ?_
  refine ti_getr hx hb hts inlX9 hown hK hT ha0 rfl rfl rfl 1 (by decide) (hts _ kw_20) (fun _ h9 => h9) rfl dX9_turnInThought_7 (fun v7 hv7 hm7 => ?_)
  refine ti_getr hx hb hts inlX7 hown hK hT hv7 rfl rfl rfl 8 (by decide) (hts _ kw_471) (fun _ h9 => h9) rfl dX9_turnInThought_10 (fun v10 hv10 hm10 => ?_)
  refine lv_iload_n hx hb dX9_turnInThought_13 rfl (lv_at hl 2 rfl) ?_
  refine ti_aald hx hb (aT6 hK) hT hv10 rfl hx2 (by decide) (fun _ _ _ => rfl) dX9_turnInThought_14 (fun v14 hv14 => ?_)
  refine lv_iload_n hx hb dX9_turnInThought_15 rfl (lv_at hl 3 rfl) ?_
  refine ti_calli (va_runV (As := [.int x3]) (rest := [.ref v5]) ⟨hx, hb, hml, hown, hts⟩ (t_X3_toldFor l hT hv14 (iv_w hx3 (by decide))) (cwV 1 hts (good_V kw_1124 kw_1125 kw_1126 kw_68 kw_1127) rfl rfl rfl (by decide +kernel) ⟨by rw [hR]; decide, by rw [hR]; decide⟩) (ti_preV hK hT hv14 rfl rfl) rfl rfl hl.1 rfl (lv_room (Nat.le_of_ble_eq_true rfl)) dX9_turnInThought_16 ⟨Nat.zero_le _, Nat.zero_le _⟩) hS (pW_sub rfl) (fun v16 H1 locs hB hS _ hk16 => ?_)
  have hH := hB
  rw [hH] at hS ⊢
  refine ti_put (ty := .int) hx hb hts inlX3 tyX3 tyX3_ok nmX3 hown hK hT hS hv5 rfl rfl rfl rfl 3 (by decide) (hts _ kw_1123) (fun _ h9 => h9) rfl rfl (by decide +kernel) rfl rfl ⟨v16, rfl, iv_w (iv_top v16) (by decide)⟩ (fun _ _ => trivial) dX9_turnInThought_19 (fun H locs hT hS oq19 he19 hk19 => ?_)
  refine lv_aload_n hx hb dX9_turnInThought_22 rfl (lv_at hl 1 rfl) ?_
  refine ti_getE (ci := 7) (v := .ref v1) hx hb hts inlX7 hown hK (hm1.kept (oq19 _ (ne_r ha1 hv5 rfl))) rfl (by decide) (hts _ kw_471) (fun _ h9 => h9) dX9_turnInThought_23 ?_
  refine lv_iload_n hx hb dX9_turnInThought_26 rfl (lv_at hl 2 rfl) ?_
  refine ti_aald hx hb (aT6 hK) hT hv1 rfl hx2 (by decide) (fun _ _ _ => rfl) dX9_turnInThought_27 (fun v27 hv27 => ?_)
  refine lv_iload_n hx hb dX9_turnInThought_28 rfl (lv_at hl 3 rfl) ?_
  refine ti_put (ty := .int) hx hb hts inlX3 tyX3 tyX3_ok nmX3 hown hK hT hS hv27 rfl rfl rfl rfl 2 (by decide) (hts _ kw_474) (fun _ h9 => h9) rfl rfl (by decide +kernel) rfl rfl ⟨x3, rfl, iv_w hx3 (by decide)⟩ (fun _ _ => trivial) dX9_turnInThought_29 (fun H locs hT hS oq29 he29 hk29 => ?_)
  exact ret _ _ _ _ dX9_turnInThought_32 (hT) hS
set_option maxHeartbeats 4000000 in
set_option maxRecDepth 100000 in
theorem t_X9_goodBy (l : Launch) {D : va_G} {c0 : Nat → ClassId} {Y : Nat → Option Nat} {ν : Nat → Nat} {H : Heap} (hT : TI D vwCl (tysOf c0) (RTg ν) Y H) {a0 : Nat} (ha0 : Y a0 = some 9) {x1 : Int32} (hx1 : iv x1 0 7) {x2 : Int32} (hx2 : iv x2 0 5) {x3 : Int32} (hx3 : iv x3 1 30) : Met l yX9_goodBy (wz yX9_goodBy cX9_goodBy 6 (some .int)) { frames := 6, cells := 0, slots := 0, locals := 166 } (TP D vwCl (tysOf c0) H [.ref a0, .int x1, .int x2, .int x3]) (TQi (fun x H' => TI D vwCl (tysOf c0) (RTg ν) Y H') Y [0, 1, 2, 3, 4, 7, 8, 20, 22, 28, 29]) 0 0 (pW Y [0, 1, 2, 3, 4, 7, 8, 20, 22, 28, 29]) := by
  refine Met.ofW (cc := cX9_goodBy) (maxL := 6) (ret := (some .int)) (by decide) rfl ?_
  intro p e s m args below meth c s₁ B hml hv
  obtain ⟨rfl, rfl, hK⟩ := hv
  have hx := B.exec
  have hb := B.bytes
  have hr := B.returns
  have hts : ∀ w ∈ wq, w.before _ s = true := fun w h => atoms_spec (ws := wz yX9_goodBy cX9_goodBy 6 (some .int)) B.pre w (List.mem_cons_of_mem _ h)
  have hown : s.vm.findClass RX9 = some m.cls := findClass_of_methodNamed B.named
  have hlocks := B.notSynchronized
  obtain ⟨R, hR⟩ : ∃ R : Room, R = ({ frames := 6, cells := 0, slots := 0, locals := 166 } : Room) := ⟨_, rfl⟩
  rw [show (headSpec (wz yX9_goodBy cX9_goodBy 6 (some .int)) { frames := 6, cells := 0, slots := 0, locals := 166 }).room = R from hR.symm]
  refine ti_mi hx hb hr hlocks (fun Q ret => ?_)
  have hl := lv_entry [.ref a0, .int x1, .int x2, .int x3] (n := 6) (Nat.le_of_ble_eq_true rfl)
  rw [lg_entry_eq]
  generalize (lg_sl [.ref a0, .int x1, .int x2, .int x3] ++ List.replicate (6 - (lg_sl [.ref a0, .int x1, .int x2, .int x3]).length) Slot.unset).toArray = ls at hl ⊢
  have hl : lv_has ls 6 [(0, .ref a0), (1, .int x1), (2, .int x2), (3, .int x3)] := hl
  refine ti_gen (P := fun H => TI D vwCl (tysOf c0) (RTg ν) Y H) (Y := Y) (ws := [0, 1, 2, 3, 4, 7, 8, 20, 22, 28, 29]) hT (fun H locs hT hS => ?_)
  refine lv_aload_n hx hb dX9_goodBy_0 rfl (lv_at hl 0 rfl) ?_
  refine ti_callr (va_runV (As := []) (rest := []) ⟨hx, hb, hml, hown, hts⟩ (t_X9_startThought l hT ha0) (cwV 0 hts (good_V kw_802 kw_803 kw_804 kw_2 kw_805) rfl rfl rfl (by decide +kernel) ⟨by rw [hR]; decide, by rw [hR]; decide⟩) (ti_preV hK hT ha0 rfl rfl) rfl rfl hl.1 rfl (lv_room (Nat.le_of_ble_eq_true rfl)) dX9_goodBy_1 ⟨Nat.zero_le _, Nat.zero_le _⟩) hS (pW_sub rfl) (fun v1 H locs hB hS _ hk1 => ?_)
  obtain ⟨hT, hv1⟩ := hB
  refine lv_astore (lv' := [(4, .ref v1), (0, .ref a0), (1, .int x1), (2, .int x2), (3, .int x3)]) hx hb dX9_goodBy_4 hl (by decide) rfl (fun ls hl => ?_)
  refine lv_aload_n hx hb dX9_goodBy_6 rfl (lv_at hl 1 rfl) ?_
  refine lv_aload hx hb dX9_goodBy_7 (lv_at hl 0 rfl) ?_
  refine lv_iload_n hx hb dX9_goodBy_9 rfl (lv_at hl 2 rfl) ?_
  refine lv_iload_n hx hb dX9_goodBy_10 rfl (lv_at hl 3 rfl) ?_
  refine ti_callv (va_runV (As := [.ref v1, .int x1, .int x2]) (rest := []) ⟨hx, hb, hml, hown, hts⟩ (t_X9_turnInThought l hT ha0 hv1 (iv_w hx1 (by decide)) (iv_w hx2 (by decide))) (cwV 3 hts (good_V kw_1119 kw_1120 kw_1121 kw_2 kw_1122) rfl rfl rfl (by decide +kernel) ⟨by rw [hR]; decide, by rw [hR]; decide⟩) (ti_preV hK hT ha0 rfl rfl) rfl rfl hl.1 rfl (lv_room (Nat.le_of_ble_eq_true rfl)) dX9_goodBy_11 ⟨Nat.zero_le _, Nat.zero_le _⟩) hS (pW_sub rfl) (fun H locs hB hS _ hk11 => ?_)
  have hT := hB
  refine lv_iconst (v := 0) hx hb dX9_goodBy_14 (by decide) ?_
  have J17 : ∀ (n : Nat) (j17_L5 : Int32) (H : Heap) (locs : List Loc) (ls : Array Slot), (30 - j17_L5.toInt).toNat < n → iv j17_L5 0 30 → TI D vwCl (tysOf c0) (RTg ν) Y H → va_S (pW Y [0, 1, 2, 3, 4, 7, 8, 20, 22, 28, 29]) s.heap H locs → lv_has ls 6 [(0, .ref a0), (1, .int x1), (2, .int x2), (3, .int x3), (4, .ref v1), (5, .int j17_L5)] → W p l e R s m ([.ref a0, .int x1, .int x2, .int x3] : List Value).toArray below meth c H locs 0 0 Q (F0 m 17 ls []) := by
    intro n
    induction n with
    | zero => intro j17_L5 H locs ls hms; exact absurd hms (Nat.not_lt_zero _)
    | succ n ih17 =>
      intro j17_L5 H locs ls hms17 hj17_L5 hT hS hl
      refine lv_iload hx hb dX9_goodBy_17 (lv_at hl 5 rfl) ?_
      refine lv_iload_n hx hb dX9_goodBy_19 rfl (lv_at hl 3 rfl) ?_
      refine lv_icmp_ge (tgt := 39) hx hb dX9_goodBy_20 (by decide) (fun c20 => ?_) (fun c20 => ?_)
      · skip
        have f20 := i_le c20
        have hj17_L5_20r : iv j17_L5 1 30 := iv_ler hx3 hj17_L5 c20 (by decide)
        refine lv_aload hx hb dX9_goodBy_39 (lv_at hl 4 rfl) ?_
        refine ti_getr hx hb hts inlX7 hown hK hT hv1 rfl rfl rfl 8 (by decide) (hts _ kw_471) (fun _ h9 => h9) rfl dX9_goodBy_41 (fun v41 hv41 hm41 => ?_)
        refine lv_iload_n hx hb dX9_goodBy_44 rfl (lv_at hl 1 rfl) ?_
        refine ti_aald hx hb (aT6 hK) hT hv41 rfl hx1 (by decide) (fun _ _ _ => rfl) dX9_goodBy_45 (fun v45 hv45 => ?_)
        refine ti_geti hx hb hts inlX3 hown hK hT hv45 rfl rfl rfl 4 (by decide) (hts _ kw_475) (fun _ h9 => h9) rfl dX9_goodBy_46 (fun v46 hv46 hm46 => ?_)
        refine lv_aload_n hx hb dX9_goodBy_49 rfl (lv_at hl 0 rfl) ?_
        refine ti_getr hx hb hts inlX9 hown hK hT ha0 rfl rfl rfl 1 (by decide) (hts _ kw_20) (fun _ h9 => h9) rfl dX9_goodBy_50 (fun v50 hv50 hm50 => ?_)
        refine ti_getr hx hb hts inlX7 hown hK hT hv50 rfl rfl rfl 8 (by decide) (hts _ kw_471) (fun _ h9 => h9) rfl dX9_goodBy_53 (fun v53 hv53 hm53 => ?_)
        refine lv_iload_n hx hb dX9_goodBy_56 rfl (lv_at hl 1 rfl) ?_
        refine ti_aald hx hb (aT6 hK) hT hv53 rfl hx1 (by decide) (fun _ _ _ => rfl) dX9_goodBy_57 (fun v57 hv57 => ?_)
        refine ti_geti hx hb hts inlX3 hown hK hT hv57 rfl rfl rfl 4 (by decide) (hts _ kw_475) (fun _ h9 => h9) rfl dX9_goodBy_58 (fun v58 hv58 hm58 => ?_)
        refine lv_isub hx hb dX9_goodBy_61 ?_
        refine lv_topi (fun v61 e61 => ?_)
        have hv61 : iv v61 (-2147483648) 2147483647 := iv_top _
        exact ret _ _ _ _ _ dX9_goodBy_62 (hT) hS
      · skip
        have f20 := i_nle c20
        have hj17_L5_20l : iv j17_L5 0 29 := iv_ltl hj17_L5 hx3 (Int32.not_le.mp c20) (by decide)
        refine lv_aload_n hx hb dX9_goodBy_23 rfl (lv_at hl 0 rfl) ?_
        refine ti_getr hx hb hts inlX9 hown hK hT ha0 rfl rfl rfl 8 (by decide) (hts _ kw_38) (fun _ h9 => h9) rfl dX9_goodBy_24 (fun v24 hv24 hm24 => ?_)
        refine lv_aload hx hb dX9_goodBy_27 (lv_at hl 4 rfl) ?_
        refine lv_iconst (v := 1) hx hb dX9_goodBy_29 (by decide) ?_
        refine ti_callv (va_runV (As := [.ref v1, .int (1 : Int32)]) (rest := []) ⟨hx, hb, hml, hown, hts⟩ (t_X8_pass l hT hv24 hv1 (iv_w (iv_c (x := (1 : Int32)) (k := 1) (by decide)) (by decide))) (cwV 2 hts (good_V kw_840 kw_841 kw_842 kw_37 kw_843) rfl rfl rfl (by decide +kernel) ⟨by rw [hR]; decide, by rw [hR]; decide⟩) (ti_preV hK hT hv24 rfl rfl) rfl rfl hl.1 rfl (lv_room (Nat.le_of_ble_eq_true rfl)) dX9_goodBy_30 ⟨Nat.zero_le _, Nat.zero_le _⟩) hS (pW_sub rfl) (fun H locs hB hS _ hk30 => ?_)
        have hT := hB
        obtain ⟨v33, e33⟩ : ∃ y : Int32, y = j17_L5 + 1 := ⟨_, rfl⟩
        have hv33 : iv v33 1 30 := by rw [e33]; exact iv_w (iv_add hj17_L5_20l (iv_c (x := (1 : Int32)) (k := 1) (by decide)) (by decide)) (by decide)
        have s33 : v33.toInt = j17_L5.toInt + 1 := by rw [e33, iv_addE hj17_L5_20l (iv_c (x := (1 : Int32)) (k := 1) (by decide)) (by decide)]; rfl
        refine lv_iinc (v := v33) (lv' := [(5, .int v33), (0, .ref a0), (1, .int x1), (2, .int x2), (3, .int x3), (4, .ref v1)]) hx hb dX9_goodBy_33 hl (k := 5) rfl (by rw [e33]; rfl) (by decide) rfl (fun ls hl => ?_)
        refine lv_goto (tgt := 17) hx hb dX9_goodBy_36 (by decide) ?_
        exact ih17 v33 _ _ _ (ms_up hms17 (by have := s33; omega) (iv_w (c := 1) (d := 30) hv33 (by decide)).2) (iv_w hv33 (by decide)) hT hS (lv_sub hl [1, 2, 3, 4, 5, 0] rfl)
  refine lv_istore (lv' := [(5, .int (0 : Int32)), (4, .ref v1), (0, .ref a0), (1, .int x1), (2, .int x2), (3, .int x3)]) hx hb dX9_goodBy_15 hl (by decide) rfl (fun ls hl => ?_)
  exact J17 _ (0 : Int32) _ _ _ (Nat.lt_succ_self _) (iv_w (iv_c (x := (0 : Int32)) (k := 0) (by decide)) (by decide)) hT hS (lv_sub hl [2, 3, 4, 5, 1, 0] rfl)
set_option maxHeartbeats 4000000 in
set_option maxRecDepth 100000 in
theorem t_X9_total (l : Launch) {D : va_G} {c0 : Nat → ClassId} {Y : Nat → Option Nat} {ν : Nat → Nat} {H : Heap} (hT : TI D vwCl (tysOf c0) (RTg ν) Y H) {a0 : Nat} (ha0 : Y a0 = some 9) {x1 : Int32} (hx1 : iv x1 (-2147483648) 2147483647) {x2 : Int32} (hx2 : iv x2 (-2147483648) 2147483647) {x3 : Int32} (hx3 : iv x3 (-2147483648) 2147483647) : Met l yX9_total (wz yX9_total cX9_total 4 (some .int)) { frames := 7, cells := 0, slots := 0, locals := 191 } (TP D vwCl (tysOf c0) H [.ref a0, .int x1, .int x2, .int x3]) (TQi (fun x H' => TI D vwCl (tysOf c0) (RTg ν) Y H') Y [0, 1, 2, 3, 4, 7, 8, 20, 22, 28, 29]) 0 0 (pW Y [0, 1, 2, 3, 4, 7, 8, 20, 22, 28, 29]) := by
  refine Met.ofW (cc := cX9_total) (maxL := 4) (ret := (some .int)) (by decide) rfl ?_
  intro p e s m args below meth c s₁ B hml hv
  obtain ⟨rfl, rfl, hK⟩ := hv
  have hx := B.exec
  have hb := B.bytes
  have hr := B.returns
  have hts : ∀ w ∈ wq, w.before _ s = true := fun w h => atoms_spec (ws := wz yX9_total cX9_total 4 (some .int)) B.pre w (List.mem_cons_of_mem _ h)
  have hown : s.vm.findClass RX9 = some m.cls := findClass_of_methodNamed B.named
  have hlocks := B.notSynchronized
  obtain ⟨R, hR⟩ : ∃ R : Room, R = ({ frames := 7, cells := 0, slots := 0, locals := 191 } : Room) := ⟨_, rfl⟩
  rw [show (headSpec (wz yX9_total cX9_total 4 (some .int)) { frames := 7, cells := 0, slots := 0, locals := 191 }).room = R from hR.symm]
  refine ti_mi hx hb hr hlocks (fun Q ret => ?_)
  have hl := lv_entry [.ref a0, .int x1, .int x2, .int x3] (n := 4) (Nat.le_of_ble_eq_true rfl)
  rw [lg_entry_eq]
  generalize (lg_sl [.ref a0, .int x1, .int x2, .int x3] ++ List.replicate (4 - (lg_sl [.ref a0, .int x1, .int x2, .int x3]).length) Slot.unset).toArray = ls at hl ⊢
  have hl : lv_has ls 4 [(0, .ref a0), (1, .int x1), (2, .int x2), (3, .int x3)] := hl
  refine ti_gen (P := fun H => TI D vwCl (tysOf c0) (RTg ν) Y H) (Y := Y) (ws := [0, 1, 2, 3, 4, 7, 8, 20, 22, 28, 29]) hT (fun H locs hT hS => ?_)
  refine lv_aload_n hx hb dX9_total_0 rfl (lv_at hl 0 rfl) ?_
  refine lv_iload_n hx hb dX9_total_1 rfl (lv_at hl 1 rfl) ?_
  refine lv_i2l hx hb dX9_total_2 rfl ?_
  refine lv_topl (fun v2 e2 => ?_)
  have hv2 : jv v2 (-2147483648) 2147483647 := by rw [e2]; exact jv_i hx1
  have t2 : v2.toInt = x1.toInt := by rw [e2]; exact jv_e _
  refine ti_calli (va_runV (As := [.long v2]) (rest := []) ⟨hx, hb, hml, hown, hts⟩ (t_X9_isPerson l hT ha0 (jv_w hv2 (by decide))) (cwV 1 hts (good_V kw_476 kw_477 kw_478 kw_2 kw_479) rfl rfl rfl (by decide +kernel) ⟨by rw [hR]; decide, by rw [hR]; decide⟩) (ti_preV hK hT ha0 rfl rfl) rfl rfl hl.1 rfl (lv_room (Nat.le_of_ble_eq_true rfl)) dX9_total_3 ⟨Nat.zero_le _, Nat.zero_le _⟩) hS (pW_sub rfl) (fun v3 H1 locs hB hS _ hk3 => ?_)
  obtain ⟨hH, hv3, hp3⟩ := hB
  rw [hH] at hS ⊢
  refine lv_if_eq (tgt := 34) hx hb dX9_total_6 (by decide) (fun c6 => ?_) (fun c6 => ?_)
  · skip
    have kl0 : (0 : Int32).toInt = 0 := by decide
    have f6 := i_eq c6
    have hv3_6l : iv v3 0 0 := iv_eql hv3 (iv_c (x := (0 : Int32)) (k := 0) (by decide)) c6 (by decide)
    refine lv_ldc (v := (-2000000000)) hx hb hown (hts _ kw_1003) dX9_total_34 ?_
    exact ret _ _ _ _ _ dX9_total_36 (hT) hS
  · skip
    have kl0 : (0 : Int32).toInt = 0 := by decide
    have f6 := i_ne c6
    have hv3_6l : iv v3 1 1 := iv_nel hv3 (iv_c (x := (0 : Int32)) (k := 0) (by decide)) c6 (by decide)
    have hv2_6p : jv v2 0 7 := by have b0a := (hv2).1; have b0b := (hv2).2; exact ⟨by omega, by omega⟩
    have hx1_6p : iv x1 0 7 := by have := t2; have b0a := (hv2_6p).1; have b0b := (hv2_6p).2; have b1a := (hx1).1; have b1b := (hx1).2; exact ⟨by omega, by omega⟩
    refine lv_iload_n hx hb dX9_total_9 rfl (lv_at hl 2 rfl) ?_
    refine lv_i2l hx hb dX9_total_10 rfl ?_
    refine lv_topl (fun v10 e10 => ?_)
    have hv10 : jv v10 (-2147483648) 2147483647 := by rw [e10]; exact jv_i hx2
    have t10 : v10.toInt = x2.toInt := by rw [e10]; exact jv_e _
    refine ti_calli (va_runS (As := [.long v10]) (rest := []) ⟨hx, hb, hml, hown, hts⟩ (t_X9_isWay l hT (jv_w hv10 (by decide))) (cwS 1 hts (good_S kw_1111 kw_1112 kw_2 kw_1113) rfl rfl rfl (by decide +kernel) ⟨by rw [hR]; decide, by rw [hR]; decide⟩) (ti_preS hK) rfl rfl hl.1 rfl (lv_room (Nat.le_of_ble_eq_true rfl)) dX9_total_11 ⟨Nat.zero_le _, Nat.zero_le _⟩) hS (pW_sub rfl) (fun v11 H1 locs hB hS _ hk11 => ?_)
    obtain ⟨hH, hv11, hp11⟩ := hB
    rw [hH] at hS ⊢
    refine lv_if_eq (tgt := 34) hx hb dX9_total_14 (by decide) (fun c14 => ?_) (fun c14 => ?_)
    · skip
      have f14 := i_eq c14
      have hv11_14l : iv v11 0 0 := iv_eql hv11 (iv_c (x := (0 : Int32)) (k := 0) (by decide)) c14 (by decide)
      refine lv_ldc (v := (-2000000000)) hx hb hown (hts _ kw_1003) dX9_total_34 ?_
      exact ret _ _ _ _ _ dX9_total_36 (hT) hS
    · skip
      have f14 := i_ne c14
      have hv11_14l : iv v11 1 1 := iv_nel hv11 (iv_c (x := (0 : Int32)) (k := 0) (by decide)) c14 (by decide)
      have hv10_14p : jv v10 0 5 := by have b0a := (hv10).1; have b0b := (hv10).2; exact ⟨by omega, by omega⟩
      have hx2_14p : iv x2 0 5 := by have := t10; have b0a := (hv10_14p).1; have b0b := (hv10_14p).2; have b1a := (hx2).1; have b1b := (hx2).2; exact ⟨by omega, by omega⟩
      refine lv_iload_n hx hb dX9_total_17 rfl (lv_at hl 3 rfl) ?_
      refine ti_calli (va_runS (As := [.int x3]) (rest := []) ⟨hx, hb, hml, hown, hts⟩ (t_X9_areDays l hT (iv_w hx3 (by decide))) (cwS 1 hts (good_S kw_837 kw_838 kw_2 kw_839) rfl rfl rfl (by decide +kernel) ⟨by rw [hR]; decide, by rw [hR]; decide⟩) (ti_preS hK) rfl rfl hl.1 rfl (lv_room (Nat.le_of_ble_eq_true rfl)) dX9_total_18 ⟨Nat.zero_le _, Nat.zero_le _⟩) hS (pW_sub rfl) (fun v18 H1 locs hB hS _ hk18 => ?_)
      obtain ⟨hH, hv18, hp18⟩ := hB
      rw [hH] at hS ⊢
      refine lv_if_eq (tgt := 34) hx hb dX9_total_21 (by decide) (fun c21 => ?_) (fun c21 => ?_)
      · skip
        have f21 := i_eq c21
        have hv18_21l : iv v18 0 0 := iv_eql hv18 (iv_c (x := (0 : Int32)) (k := 0) (by decide)) c21 (by decide)
        refine lv_ldc (v := (-2000000000)) hx hb hown (hts _ kw_1003) dX9_total_34 ?_
        exact ret _ _ _ _ _ dX9_total_36 (hT) hS
      · skip
        have f21 := i_ne c21
        have hv18_21l : iv v18 1 1 := iv_nel hv18 (iv_c (x := (0 : Int32)) (k := 0) (by decide)) c21 (by decide)
        have hx3_21p : iv x3 1 30 := by have b0a := (hx3).1; have b0b := (hx3).2; exact ⟨by omega, by omega⟩
        refine lv_aload_n hx hb dX9_total_24 rfl (lv_at hl 0 rfl) ?_
        refine lv_iload_n hx hb dX9_total_25 rfl (lv_at hl 1 rfl) ?_
        refine lv_iload_n hx hb dX9_total_26 rfl (lv_at hl 2 rfl) ?_
        refine lv_iload_n hx hb dX9_total_27 rfl (lv_at hl 3 rfl) ?_
        refine ti_calli (va_runV (As := [.int x1, .int x2, .int x3]) (rest := []) ⟨hx, hb, hml, hown, hts⟩ (t_X9_goodBy l hT ha0 (iv_w hx1_6p (by decide)) (iv_w hx2_14p (by decide)) (iv_w hx3_21p (by decide))) (cwV 3 hts (good_V kw_1115 kw_1116 kw_1117 kw_2 kw_1118) rfl rfl rfl (by decide +kernel) ⟨by rw [hR]; decide, by rw [hR]; decide⟩) (ti_preV hK hT ha0 rfl rfl) rfl rfl hl.1 rfl (lv_room (Nat.le_of_ble_eq_true rfl)) dX9_total_28 ⟨Nat.zero_le _, Nat.zero_le _⟩) hS (pW_sub rfl) (fun v28 H locs hB hS _ hk28 => ?_)
        have hT := hB
        refine lv_goto (tgt := 36) hx hb dX9_total_31 (by decide) ?_
        exact ret _ _ _ _ _ dX9_total_36 (hT) hS
set_option maxHeartbeats 4000000 in
set_option maxRecDepth 100000 in
theorem t_X9_way (l : Launch) {D : va_G} {c0 : Nat → ClassId} {Y : Nat → Option Nat} {ν : Nat → Nat} {H : Heap} (hT : TI D vwCl (tysOf c0) (RTg ν) Y H) {a0 : Nat} (ha0 : Y a0 = some 9) {x1 : Int32} (hx1 : iv x1 (-2147483648) 2147483647) {x2 : Int32} (hx2 : iv x2 (-2147483648) 2147483647) : Met l yX9_way (wz yX9_way cX9_way 7 (some .int)) { frames := 7, cells := 0, slots := 0, locals := 191 } (TP D vwCl (tysOf c0) H [.ref a0, .int x1, .int x2]) (TQi (fun x H' => TI D vwCl (tysOf c0) (RTg ν) Y H' ∧ iv x (-2) 5) Y [0, 1, 2, 3, 4, 7, 8, 20, 22, 28, 29]) 0 0 (pW Y [0, 1, 2, 3, 4, 7, 8, 20, 22, 28, 29]) := by
  refine Met.ofW (cc := cX9_way) (maxL := 7) (ret := (some .int)) (by decide) rfl ?_
  intro p e s m args below meth c s₁ B hml hv
  obtain ⟨rfl, rfl, hK⟩ := hv
  have hx := B.exec
  have hb := B.bytes
  have hr := B.returns
  have hts : ∀ w ∈ wq, w.before _ s = true := fun w h => atoms_spec (ws := wz yX9_way cX9_way 7 (some .int)) B.pre w (List.mem_cons_of_mem _ h)
  have hown : s.vm.findClass RX9 = some m.cls := findClass_of_methodNamed B.named
  have hlocks := B.notSynchronized
  obtain ⟨R, hR⟩ : ∃ R : Room, R = ({ frames := 7, cells := 0, slots := 0, locals := 191 } : Room) := ⟨_, rfl⟩
  rw [show (headSpec (wz yX9_way cX9_way 7 (some .int)) { frames := 7, cells := 0, slots := 0, locals := 191 }).room = R from hR.symm]
  refine ti_mi hx hb hr hlocks (fun Q ret => ?_)
  have hl := lv_entry [.ref a0, .int x1, .int x2] (n := 7) (Nat.le_of_ble_eq_true rfl)
  rw [lg_entry_eq]
  generalize (lg_sl [.ref a0, .int x1, .int x2] ++ List.replicate (7 - (lg_sl [.ref a0, .int x1, .int x2]).length) Slot.unset).toArray = ls at hl ⊢
  have hl : lv_has ls 7 [(0, .ref a0), (1, .int x1), (2, .int x2)] := hl
  refine ti_gen (P := fun H => TI D vwCl (tysOf c0) (RTg ν) Y H) (Y := Y) (ws := [0, 1, 2, 3, 4, 7, 8, 20, 22, 28, 29]) hT (fun H locs hT hS => ?_)
  refine lv_aload_n hx hb dX9_way_0 rfl (lv_at hl 0 rfl) ?_
  refine lv_iload_n hx hb dX9_way_1 rfl (lv_at hl 1 rfl) ?_
  refine lv_i2l hx hb dX9_way_2 rfl ?_
  refine lv_topl (fun v2 e2 => ?_)
  have hv2 : jv v2 (-2147483648) 2147483647 := by rw [e2]; exact jv_i hx1
  have t2 : v2.toInt = x1.toInt := by rw [e2]; exact jv_e _
  refine ti_calli (va_runV (As := [.long v2]) (rest := []) ⟨hx, hb, hml, hown, hts⟩ (t_X9_isPerson l hT ha0 (jv_w hv2 (by decide))) (cwV 1 hts (good_V kw_476 kw_477 kw_478 kw_2 kw_479) rfl rfl rfl (by decide +kernel) ⟨by rw [hR]; decide, by rw [hR]; decide⟩) (ti_preV hK hT ha0 rfl rfl) rfl rfl hl.1 rfl (lv_room (Nat.le_of_ble_eq_true rfl)) dX9_way_3 ⟨Nat.zero_le _, Nat.zero_le _⟩) hS (pW_sub rfl) (fun v3 H1 locs hB hS _ hk3 => ?_)
  obtain ⟨hH, hv3, hp3⟩ := hB
  rw [hH] at hS ⊢
  refine lv_if_eq (tgt := 16) hx hb dX9_way_6 (by decide) (fun c6 => ?_) (fun c6 => ?_)
  · skip
    have kl0 : (0 : Int32).toInt = 0 := by decide
    have f6 := i_eq c6
    have hv3_6l : iv v3 0 0 := iv_eql hv3 (iv_c (x := (0 : Int32)) (k := 0) (by decide)) c6 (by decide)
    refine lv_bipush (v := (-2)) hx hb dX9_way_16 (by decide) ?_
    exact ret _ _ _ _ _ dX9_way_18 (⟨hT, iv_w (iv_c (x := (-2 : Int32)) (k := (-2)) (by decide)) (by decide)⟩) hS
  · skip
    have kl0 : (0 : Int32).toInt = 0 := by decide
    have f6 := i_ne c6
    have hv3_6l : iv v3 1 1 := iv_nel hv3 (iv_c (x := (0 : Int32)) (k := 0) (by decide)) c6 (by decide)
    have hv2_6p : jv v2 0 7 := by have b0a := (hv2).1; have b0b := (hv2).2; exact ⟨by omega, by omega⟩
    have hx1_6p : iv x1 0 7 := by have := t2; have b0a := (hv2_6p).1; have b0b := (hv2_6p).2; have b1a := (hx1).1; have b1b := (hx1).2; exact ⟨by omega, by omega⟩
    refine lv_iload_n hx hb dX9_way_9 rfl (lv_at hl 2 rfl) ?_
    refine ti_calli (va_runS (As := [.int x2]) (rest := []) ⟨hx, hb, hml, hown, hts⟩ (t_X9_areDays l hT (iv_w hx2 (by decide))) (cwS 1 hts (good_S kw_837 kw_838 kw_2 kw_839) rfl rfl rfl (by decide +kernel) ⟨by rw [hR]; decide, by rw [hR]; decide⟩) (ti_preS hK) rfl rfl hl.1 rfl (lv_room (Nat.le_of_ble_eq_true rfl)) dX9_way_10 ⟨Nat.zero_le _, Nat.zero_le _⟩) hS (pW_sub rfl) (fun v10 H1 locs hB hS _ hk10 => ?_)
    obtain ⟨hH, hv10, hp10⟩ := hB
    rw [hH] at hS ⊢
    refine lv_if_ne (tgt := 19) hx hb dX9_way_13 (by decide) (fun c13 => ?_) (fun c13 => ?_)
    · skip
      have f13 := i_ne c13
      have hv10_13l : iv v10 1 1 := iv_nel hv10 (iv_c (x := (0 : Int32)) (k := 0) (by decide)) c13 (by decide)
      have hx2_13p : iv x2 1 30 := by have b0a := (hx2).1; have b0b := (hx2).2; exact ⟨by omega, by omega⟩
      refine lv_ldc (v := (-2000000000)) hx hb hown (hts _ kw_1003) dX9_way_19 ?_
      refine lv_istore_n (lv' := [(3, .int (-2000000000 : Int32)), (0, .ref a0), (1, .int x1), (2, .int x2)]) hx hb dX9_way_21 rfl hl (by decide) rfl (fun ls hl => ?_)
      refine lv_iconst (v := 0) hx hb dX9_way_22 (by decide) ?_
      refine lv_istore (lv' := [(4, .int (0 : Int32)), (3, .int (-2000000000 : Int32)), (0, .ref a0), (1, .int x1), (2, .int x2)]) hx hb dX9_way_23 hl (by decide) rfl (fun ls hl => ?_)
      refine lv_iconst (v := 0) hx hb dX9_way_25 (by decide) ?_
      have J28 : ∀ (n : Nat) (j28_L3 : Int32) (j28_L4 : Int32) (j28_L5 : Int32) (H : Heap) (locs : List Loc) (ls : Array Slot), (6 - j28_L5.toInt).toNat < n → iv j28_L3 (-2000000000) 2147483647 → iv j28_L4 0 5 → iv j28_L5 0 6 → TI D vwCl (tysOf c0) (RTg ν) Y H → va_S (pW Y [0, 1, 2, 3, 4, 7, 8, 20, 22, 28, 29]) s.heap H locs → lv_has ls 7 [(0, .ref a0), (1, .int x1), (2, .int x2), (3, .int j28_L3), (4, .int j28_L4), (5, .int j28_L5)] → W p l e R s m ([.ref a0, .int x1, .int x2] : List Value).toArray below meth c H locs 0 0 Q (F0 m 28 ls []) := by
        intro n
        induction n with
        | zero => intro j28_L3 j28_L4 j28_L5 H locs ls hms; exact absurd hms (Nat.not_lt_zero _)
        | succ n ih28 =>
          intro j28_L3 j28_L4 j28_L5 H locs ls hms28 hj28_L3 hj28_L4 hj28_L5 hT hS hl
          refine lv_iload hx hb dX9_way_28 (lv_at hl 5 rfl) ?_
          refine lv_bipush (v := 6) hx hb dX9_way_30 (by decide) ?_
          refine lv_icmp_ge (tgt := 64) hx hb dX9_way_32 (by decide) (fun c32 => ?_) (fun c32 => ?_)
          · skip
            have kl6 : (6 : Int32).toInt = 6 := by decide
            have f32 := i_le c32
            have hj28_L5_32r : iv j28_L5 6 6 := iv_ler (iv_c (x := (6 : Int32)) (k := 6) (by decide)) hj28_L5 c32 (by decide)
            refine lv_iload hx hb dX9_way_64 (lv_at hl 4 rfl) ?_
            exact ret _ _ _ _ _ dX9_way_66 (⟨hT, iv_w hj28_L4 (by decide)⟩) hS
          · skip
            have kl6 : (6 : Int32).toInt = 6 := by decide
            have f32 := i_nle c32
            have hj28_L5_32l : iv j28_L5 0 5 := iv_ltl hj28_L5 (iv_c (x := (6 : Int32)) (k := 6) (by decide)) (Int32.not_le.mp c32) (by decide)
            refine lv_aload_n hx hb dX9_way_35 rfl (lv_at hl 0 rfl) ?_
            refine lv_iload_n hx hb dX9_way_36 rfl (lv_at hl 1 rfl) ?_
            refine lv_iload hx hb dX9_way_37 (lv_at hl 5 rfl) ?_
            refine lv_iload_n hx hb dX9_way_39 rfl (lv_at hl 2 rfl) ?_
            refine ti_calli (va_runV (As := [.int x1, .int j28_L5, .int x2]) (rest := []) ⟨hx, hb, hml, hown, hts⟩ (t_X9_goodBy l hT ha0 (iv_w hx1_6p (by decide)) (iv_w hj28_L5_32l (by decide)) (iv_w hx2_13p (by decide))) (cwV 3 hts (good_V kw_1115 kw_1116 kw_1117 kw_2 kw_1118) rfl rfl rfl (by decide +kernel) ⟨by rw [hR]; decide, by rw [hR]; decide⟩) (ti_preV hK hT ha0 rfl rfl) rfl rfl hl.1 rfl (lv_room (Nat.le_of_ble_eq_true rfl)) dX9_way_40 ⟨Nat.zero_le _, Nat.zero_le _⟩) hS (pW_sub rfl) (fun v40 H locs hB hS _ hk40 => ?_)
            have hT := hB
            refine lv_istore (lv' := [(6, .int v40), (0, .ref a0), (1, .int x1), (2, .int x2), (3, .int j28_L3), (4, .int j28_L4), (5, .int j28_L5)]) hx hb dX9_way_43 hl (by decide) rfl (fun ls hl => ?_)
            refine lv_iload hx hb dX9_way_45 (lv_at hl 0 rfl) ?_
            refine lv_iload_n hx hb dX9_way_47 rfl (lv_at hl 4 rfl) ?_
            have J58 : ∀ (j58_L3 : Int32) (j58_L4 : Int32) (H : Heap) (locs : List Loc) (ls : Array Slot), iv j58_L3 (-2000000000) 2147483647 → iv j58_L4 0 5 → TI D vwCl (tysOf c0) (RTg ν) Y H → va_S (pW Y [0, 1, 2, 3, 4, 7, 8, 20, 22, 28, 29]) s.heap H locs → lv_has ls 7 [(0, .ref a0), (1, .int x1), (2, .int x2), (3, .int j58_L3), (4, .int j58_L4), (5, .int j28_L5), (6, .int v40)] → W p l e R s m ([.ref a0, .int x1, .int x2] : List Value).toArray below meth c H locs 0 0 Q (F0 m 58 ls []) := by
              intro j58_L3 j58_L4 H locs ls hj58_L3 hj58_L4 hT hS hl
              obtain ⟨v58, e58⟩ : ∃ y : Int32, y = j28_L5 + 1 := ⟨_, rfl⟩
              have hv58 : iv v58 1 6 := by rw [e58]; exact iv_w (iv_add hj28_L5_32l (iv_c (x := (1 : Int32)) (k := 1) (by decide)) (by decide)) (by decide)
              have s58 : v58.toInt = j28_L5.toInt + 1 := by rw [e58, iv_addE hj28_L5_32l (iv_c (x := (1 : Int32)) (k := 1) (by decide)) (by decide)]; rfl
              refine lv_iinc (v := v58) (lv' := [(5, .int v58), (0, .ref a0), (1, .int x1), (2, .int x2), (3, .int j58_L3), (4, .int j58_L4), (6, .int v40)]) hx hb dX9_way_58 hl (k := 5) rfl (by rw [e58]; rfl) (by decide) rfl (fun ls hl => ?_)
              refine lv_goto (tgt := 28) hx hb dX9_way_61 (by decide) ?_
              exact ih28 j58_L3 j58_L4 v58 _ _ _ (ms_up hms28 (by have := s58; omega) (iv_w (c := 1) (d := 6) hv58 (by decide)).2) (iv_w hj58_L3 (by decide)) (iv_w hj58_L4 (by decide)) (iv_w hv58 (by decide)) hT hS (lv_sub hl [1, 2, 3, 4, 5, 0] rfl)
            refine lv_icmp_le (tgt := 58) hx hb dX9_way_48 (by decide) (fun c48 => ?_) (fun c48 => ?_)
            · skip
              have f48 := i_le c48
              exact J58 j28_L3 j28_L4 _ _ _  (iv_w hj28_L3 (by decide)) (iv_w hj28_L4 (by decide)) hT hS (lv_sub hl [1, 2, 3, 4, 5, 6, 0] rfl)
            · skip
              have f48 := i_nle c48
              have hj28_L3_48l : iv j28_L3 (-2000000000) 2147483646 := iv_ltl hj28_L3 (iv_top v40) (Int32.not_le.mp c48) (by decide)
              have hv40_48r : iv v40 (-1999999999) 2147483647 := iv_ltr hj28_L3_48l (iv_top v40) (Int32.not_le.mp c48) (by decide)
              refine lv_iload hx hb dX9_way_51 (lv_at hl 0 rfl) ?_
              refine lv_istore_n (lv' := [(3, .int v40), (6, .int v40), (0, .ref a0), (1, .int x1), (2, .int x2), (4, .int j28_L4), (5, .int j28_L5)]) hx hb dX9_way_53 rfl hl (by decide) rfl (fun ls hl => ?_)
              refine lv_iload hx hb dX9_way_54 (lv_at hl 6 rfl) ?_
              refine lv_istore (lv' := [(4, .int j28_L5), (3, .int v40), (6, .int v40), (0, .ref a0), (1, .int x1), (2, .int x2), (5, .int j28_L5)]) hx hb dX9_way_56 hl (by decide) rfl (fun ls hl => ?_)
              exact J58 v40 j28_L5 _ _ _  (iv_w hv40_48r (by decide)) (iv_w hj28_L5_32l (by decide)) hT hS (lv_sub hl [3, 4, 5, 1, 0, 6, 2] rfl)
      refine lv_istore (lv' := [(5, .int (0 : Int32)), (4, .int (0 : Int32)), (3, .int (-2000000000 : Int32)), (0, .ref a0), (1, .int x1), (2, .int x2)]) hx hb dX9_way_26 hl (by decide) rfl (fun ls hl => ?_)
      exact J28 _ (-2000000000 : Int32) (0 : Int32) (0 : Int32) _ _ _ (Nat.lt_succ_self _) (iv_w (iv_c (x := (-2000000000 : Int32)) (k := (-2000000000)) (by decide)) (by decide)) (iv_w (iv_c (x := (0 : Int32)) (k := 0) (by decide)) (by decide)) (iv_w (iv_c (x := (0 : Int32)) (k := 0) (by decide)) (by decide)) hT hS (lv_sub hl [3, 4, 5, 2, 1, 0] rfl)
    · skip
      have f13 := i_eq c13
      have hv10_13l : iv v10 0 0 := iv_eql hv10 (iv_c (x := (0 : Int32)) (k := 0) (by decide)) c13 (by decide)
      refine lv_bipush (v := (-2)) hx hb dX9_way_16 (by decide) ?_
      exact ret _ _ _ _ _ dX9_way_18 (⟨hT, iv_w (iv_c (x := (-2 : Int32)) (k := (-2)) (by decide)) (by decide)⟩) hS
set_option maxHeartbeats 4000000 in
set_option maxRecDepth 100000 in
theorem t_X9_turnsTo (l : Launch) {D : va_G} {c0 : Nat → ClassId} {Y : Nat → Option Nat} {ν : Nat → Nat} {H : Heap} (hT : TI D vwCl (tysOf c0) (RTg ν) Y H) {a0 : Nat} (ha0 : Y a0 = some 9) {x1 : Int32} (hx1 : iv x1 (-2147483648) 2147483647) {x2 : Int32} (hx2 : iv x2 (-2147483648) 2147483647) : Met l yX9_turnsTo (wz yX9_turnsTo cX9_turnsTo 4 (some .int)) { frames := 2, cells := 0, slots := 0, locals := 44 } (TP D vwCl (tysOf c0) H [.ref a0, .int x1, .int x2]) (TQi (fun x H' => TI D vwCl (tysOf c0) (RTg ν) Y H') Y [3]) 0 0 (pW Y [3]) := by
  refine Met.ofW (cc := cX9_turnsTo) (maxL := 4) (ret := (some .int)) (by decide) rfl ?_
  intro p e s m args below meth c s₁ B hml hv
  obtain ⟨rfl, rfl, hK⟩ := hv
  have hx := B.exec
  have hb := B.bytes
  have hr := B.returns
  have hts : ∀ w ∈ wq, w.before _ s = true := fun w h => atoms_spec (ws := wz yX9_turnsTo cX9_turnsTo 4 (some .int)) B.pre w (List.mem_cons_of_mem _ h)
  have hown : s.vm.findClass RX9 = some m.cls := findClass_of_methodNamed B.named
  have hlocks := B.notSynchronized
  obtain ⟨R, hR⟩ : ∃ R : Room, R = ({ frames := 2, cells := 0, slots := 0, locals := 44 } : Room) := ⟨_, rfl⟩
  rw [show (headSpec (wz yX9_turnsTo cX9_turnsTo 4 (some .int)) { frames := 2, cells := 0, slots := 0, locals := 44 }).room = R from hR.symm]
  refine ti_mi hx hb hr hlocks (fun Q ret => ?_)
  have hl := lv_entry [.ref a0, .int x1, .int x2] (n := 4) (Nat.le_of_ble_eq_true rfl)
  rw [lg_entry_eq]
  generalize (lg_sl [.ref a0, .int x1, .int x2] ++ List.replicate (4 - (lg_sl [.ref a0, .int x1, .int x2]).length) Slot.unset).toArray = ls at hl ⊢
  have hl : lv_has ls 4 [(0, .ref a0), (1, .int x1), (2, .int x2)] := hl
  refine ti_gen (P := fun H => TI D vwCl (tysOf c0) (RTg ν) Y H) (Y := Y) (ws := [3]) hT (fun H locs hT hS => ?_)
  refine lv_aload_n hx hb dX9_turnsTo_0 rfl (lv_at hl 0 rfl) ?_
  refine lv_iload_n hx hb dX9_turnsTo_1 rfl (lv_at hl 1 rfl) ?_
  refine lv_i2l hx hb dX9_turnsTo_2 rfl ?_
  refine lv_topl (fun v2 e2 => ?_)
  have hv2 : jv v2 (-2147483648) 2147483647 := by rw [e2]; exact jv_i hx1
  have t2 : v2.toInt = x1.toInt := by rw [e2]; exact jv_e _
  refine ti_calli (va_runV (As := [.long v2]) (rest := []) ⟨hx, hb, hml, hown, hts⟩ (t_X9_isPerson l hT ha0 (jv_w hv2 (by decide))) (cwV 1 hts (good_V kw_476 kw_477 kw_478 kw_2 kw_479) rfl rfl rfl (by decide +kernel) ⟨by rw [hR]; decide, by rw [hR]; decide⟩) (ti_preV hK hT ha0 rfl rfl) rfl rfl hl.1 rfl (lv_room (Nat.le_of_ble_eq_true rfl)) dX9_turnsTo_3 ⟨Nat.zero_le _, Nat.zero_le _⟩) hS (pW_sub rfl) (fun v3 H1 locs hB hS _ hk3 => ?_)
  obtain ⟨hH, hv3, hp3⟩ := hB
  rw [hH] at hS ⊢
  refine lv_if_eq (tgt := 17) hx hb dX9_turnsTo_6 (by decide) (fun c6 => ?_) (fun c6 => ?_)
  · skip
    have kl0 : (0 : Int32).toInt = 0 := by decide
    have f6 := i_eq c6
    have hv3_6l : iv v3 0 0 := iv_eql hv3 (iv_c (x := (0 : Int32)) (k := 0) (by decide)) c6 (by decide)
    refine lv_bipush (v := (-2)) hx hb dX9_turnsTo_17 (by decide) ?_
    exact ret _ _ _ _ _ dX9_turnsTo_19 (hT) hS
  · skip
    have kl0 : (0 : Int32).toInt = 0 := by decide
    have f6 := i_ne c6
    have hv3_6l : iv v3 1 1 := iv_nel hv3 (iv_c (x := (0 : Int32)) (k := 0) (by decide)) c6 (by decide)
    have hv2_6p : jv v2 0 7 := by have b0a := (hv2).1; have b0b := (hv2).2; exact ⟨by omega, by omega⟩
    have hx1_6p : iv x1 0 7 := by have := t2; have b0a := (hv2_6p).1; have b0b := (hv2_6p).2; have b1a := (hx1).1; have b1b := (hx1).2; exact ⟨by omega, by omega⟩
    refine lv_iload_n hx hb dX9_turnsTo_9 rfl (lv_at hl 2 rfl) ?_
    refine lv_i2l hx hb dX9_turnsTo_10 rfl ?_
    refine lv_topl (fun v10 e10 => ?_)
    have hv10 : jv v10 (-2147483648) 2147483647 := by rw [e10]; exact jv_i hx2
    have t10 : v10.toInt = x2.toInt := by rw [e10]; exact jv_e _
    refine ti_calli (va_runS (As := [.long v10]) (rest := []) ⟨hx, hb, hml, hown, hts⟩ (t_X9_isWay l hT (jv_w hv10 (by decide))) (cwS 1 hts (good_S kw_1111 kw_1112 kw_2 kw_1113) rfl rfl rfl (by decide +kernel) ⟨by rw [hR]; decide, by rw [hR]; decide⟩) (ti_preS hK) rfl rfl hl.1 rfl (lv_room (Nat.le_of_ble_eq_true rfl)) dX9_turnsTo_11 ⟨Nat.zero_le _, Nat.zero_le _⟩) hS (pW_sub rfl) (fun v11 H1 locs hB hS _ hk11 => ?_)
    obtain ⟨hH, hv11, hp11⟩ := hB
    rw [hH] at hS ⊢
    refine lv_if_ne (tgt := 20) hx hb dX9_turnsTo_14 (by decide) (fun c14 => ?_) (fun c14 => ?_)
    · skip
      have f14 := i_ne c14
      have hv11_14l : iv v11 1 1 := iv_nel hv11 (iv_c (x := (0 : Int32)) (k := 0) (by decide)) c14 (by decide)
      have hv10_14p : jv v10 0 5 := by have b0a := (hv10).1; have b0b := (hv10).2; exact ⟨by omega, by omega⟩
      have hx2_14p : iv x2 0 5 := by have := t10; have b0a := (hv10_14p).1; have b0b := (hv10_14p).2; have b1a := (hx2).1; have b1b := (hx2).2; exact ⟨by omega, by omega⟩
      refine lv_aload_n hx hb dX9_turnsTo_20 rfl (lv_at hl 0 rfl) ?_
      refine ti_getr hx hb hts inlX9 hown hK hT ha0 rfl rfl rfl 1 (by decide) (hts _ kw_20) (fun _ h9 => h9) rfl dX9_turnsTo_21 (fun v21 hv21 hm21 => ?_)
      refine ti_getr hx hb hts inlX7 hown hK hT hv21 rfl rfl rfl 8 (by decide) (hts _ kw_471) (fun _ h9 => h9) rfl dX9_turnsTo_24 (fun v24 hv24 hm24 => ?_)
      refine lv_iload_n hx hb dX9_turnsTo_27 rfl (lv_at hl 1 rfl) ?_
      refine ti_aald hx hb (aT6 hK) hT hv24 rfl hx1_6p (by decide) (fun _ _ _ => rfl) dX9_turnsTo_28 (fun v28 hv28 => ?_)
      refine ti_geti hx hb hts inlX3 hown hK hT hv28 rfl rfl rfl 2 (by decide) (hts _ kw_474) (fun _ h9 => h9) rfl dX9_turnsTo_29 (fun v29 hv29 hm29 => ?_)
      refine lv_istore_n (lv' := [(3, .int v29), (0, .ref a0), (1, .int x1), (2, .int x2)]) hx hb dX9_turnsTo_32 rfl hl (by decide) rfl (fun ls hl => ?_)
      refine lv_aload_n hx hb dX9_turnsTo_33 rfl (lv_at hl 1 rfl) ?_
      refine lv_aload_n hx hb dX9_turnsTo_34 rfl (lv_at hl 1 rfl) ?_
      refine ti_getE (ci := 9) (v := .ref v21) hx hb hts inlX9 hown hK hm21 rfl (by decide) (hts _ kw_20) (fun _ h9 => h9) dX9_turnsTo_35 ?_
      refine lv_iload_n hx hb dX9_turnsTo_38 rfl (lv_at hl 2 rfl) ?_
      refine lv_iload_n hx hb dX9_turnsTo_39 rfl (lv_at hl 3 rfl) ?_
      refine ti_callv (va_runV (As := [.ref v21, .int x1, .int x2]) (rest := []) ⟨hx, hb, hml, hown, hts⟩ (t_X9_turnInThought l hT ha0 hv21 (iv_w hx1_6p (by decide)) (iv_w hx2_14p (by decide))) (cwV 3 hts (good_V kw_1119 kw_1120 kw_1121 kw_2 kw_1122) rfl rfl rfl (by decide +kernel) ⟨by rw [hR]; decide, by rw [hR]; decide⟩) (ti_preV hK hT ha0 rfl rfl) rfl rfl hl.1 rfl (lv_room (Nat.le_of_ble_eq_true rfl)) dX9_turnsTo_40 ⟨Nat.zero_le _, Nat.zero_le _⟩) hS (pW_sub rfl) (fun H locs hB hS _ hk40 => ?_)
      have hT := hB
      refine lv_iload_n hx hb dX9_turnsTo_43 rfl (lv_at hl 0 rfl) ?_
      exact ret _ _ _ _ _ dX9_turnsTo_44 (hT) hS
    · skip
      have f14 := i_eq c14
      have hv11_14l : iv v11 0 0 := iv_eql hv11 (iv_c (x := (0 : Int32)) (k := 0) (by decide)) c14 (by decide)
      refine lv_bipush (v := (-2)) hx hb dX9_turnsTo_17 (by decide) ?_
      exact ret _ _ _ _ _ dX9_turnsTo_19 (hT) hS
set_option maxHeartbeats 4000000 in
set_option maxRecDepth 100000 in
theorem t_X9_idle (l : Launch) {D : va_G} {c0 : Nat → ClassId} {Y : Nat → Option Nat} {ν : Nat → Nat} {H : Heap} (hT : TI D vwCl (tysOf c0) (RTg ν) Y H) {a0 : Nat} (ha0 : Y a0 = some 9) {x1 : Int32} (hx1 : iv x1 (-2147483648) 2147483647) : Met l yX9_idle (wz yX9_idle cX9_idle 5 (some .int)) { frames := 6, cells := 0, slots := 0, locals := 166 } (TP D vwCl (tysOf c0) H [.ref a0, .int x1]) (TQi (fun x H' => TI D vwCl (tysOf c0) (RTg ν) Y H') Y [0, 1, 2, 3, 4, 7, 8, 20, 22, 28, 29]) 0 0 (pW Y [0, 1, 2, 3, 4, 7, 8, 20, 22, 28, 29]) := by
  refine Met.ofW (cc := cX9_idle) (maxL := 5) (ret := (some .int)) (by decide) rfl ?_
  intro p e s m args below meth c s₁ B hml hv
  obtain ⟨rfl, rfl, hK⟩ := hv
  have hx := B.exec
  have hb := B.bytes
  have hr := B.returns
  have hts : ∀ w ∈ wq, w.before _ s = true := fun w h => atoms_spec (ws := wz yX9_idle cX9_idle 5 (some .int)) B.pre w (List.mem_cons_of_mem _ h)
  have hown : s.vm.findClass RX9 = some m.cls := findClass_of_methodNamed B.named
  have hlocks := B.notSynchronized
  obtain ⟨R, hR⟩ : ∃ R : Room, R = ({ frames := 6, cells := 0, slots := 0, locals := 166 } : Room) := ⟨_, rfl⟩
  rw [show (headSpec (wz yX9_idle cX9_idle 5 (some .int)) { frames := 6, cells := 0, slots := 0, locals := 166 }).room = R from hR.symm]
  refine ti_mi hx hb hr hlocks (fun Q ret => ?_)
  have hl := lv_entry [.ref a0, .int x1] (n := 5) (Nat.le_of_ble_eq_true rfl)
  rw [lg_entry_eq]
  generalize (lg_sl [.ref a0, .int x1] ++ List.replicate (5 - (lg_sl [.ref a0, .int x1]).length) Slot.unset).toArray = ls at hl ⊢
  have hl : lv_has ls 5 [(0, .ref a0), (1, .int x1)] := hl
  refine ti_gen (P := fun H => TI D vwCl (tysOf c0) (RTg ν) Y H) (Y := Y) (ws := [0, 1, 2, 3, 4, 7, 8, 20, 22, 28, 29]) hT (fun H locs hT hS => ?_)
  refine lv_aload_n hx hb dX9_idle_0 rfl (lv_at hl 0 rfl) ?_
  refine lv_iload_n hx hb dX9_idle_1 rfl (lv_at hl 1 rfl) ?_
  refine ti_calli (va_runV (As := [.int x1]) (rest := []) ⟨hx, hb, hml, hown, hts⟩ (t_X9_canPass l hT ha0 (iv_w hx1 (by decide))) (cwV 1 hts (good_V kw_833 kw_834 kw_835 kw_2 kw_836) rfl rfl rfl (by decide +kernel) ⟨by rw [hR]; decide, by rw [hR]; decide⟩) (ti_preV hK hT ha0 rfl rfl) rfl rfl hl.1 rfl (lv_room (Nat.le_of_ble_eq_true rfl)) dX9_idle_2 ⟨Nat.zero_le _, Nat.zero_le _⟩) hS (pW_sub rfl) (fun v2 H1 locs hB hS _ hk2 => ?_)
  obtain ⟨hH, hv2, hp2⟩ := hB
  rw [hH] at hS ⊢
  refine lv_if_ne (tgt := 11) hx hb dX9_idle_5 (by decide) (fun c5 => ?_) (fun c5 => ?_)
  · skip
    have kl0 : (0 : Int32).toInt = 0 := by decide
    have f5 := i_ne c5
    have hv2_5l : iv v2 1 1 := iv_nel hv2 (iv_c (x := (0 : Int32)) (k := 0) (by decide)) c5 (by decide)
    have hx1_5p : iv x1 1 30 := by have b0a := (hx1).1; have b0b := (hx1).2; exact ⟨by omega, by omega⟩
    refine lv_aload_n hx hb dX9_idle_11 rfl (lv_at hl 0 rfl) ?_
    refine ti_callr (va_runV (As := []) (rest := []) ⟨hx, hb, hml, hown, hts⟩ (t_X9_startThought l hT ha0) (cwV 0 hts (good_V kw_802 kw_803 kw_804 kw_2 kw_805) rfl rfl rfl (by decide +kernel) ⟨by rw [hR]; decide, by rw [hR]; decide⟩) (ti_preV hK hT ha0 rfl rfl) rfl rfl hl.1 rfl (lv_room (Nat.le_of_ble_eq_true rfl)) dX9_idle_12 ⟨Nat.zero_le _, Nat.zero_le _⟩) hS (pW_sub rfl) (fun v12 H locs hB hS _ hk12 => ?_)
    obtain ⟨hT, hv12⟩ := hB
    refine lv_astore_n (lv' := [(2, .ref v12), (0, .ref a0), (1, .int x1)]) hx hb dX9_idle_15 rfl hl (by decide) rfl (fun ls hl => ?_)
    refine lv_iconst (v := 0) hx hb dX9_idle_16 (by decide) ?_
    refine lv_istore_n (lv' := [(3, .int (0 : Int32)), (2, .ref v12), (0, .ref a0), (1, .int x1)]) hx hb dX9_idle_17 rfl hl (by decide) rfl (fun ls hl => ?_)
    refine lv_iconst (v := 0) hx hb dX9_idle_18 (by decide) ?_
    have J21 : ∀ (n : Nat) (j21_L3 : Int32) (j21_L4 : Int32) (H : Heap) (locs : List Loc) (ls : Array Slot), (30 - j21_L4.toInt).toNat < n → iv j21_L3 (-2147483648) 2147483647 → iv j21_L4 0 30 → TI D vwCl (tysOf c0) (RTg ν) Y H → va_S (pW Y [0, 1, 2, 3, 4, 7, 8, 20, 22, 28, 29]) s.heap H locs → lv_has ls 5 [(0, .ref a0), (1, .int x1), (2, .ref v12), (3, .int j21_L3), (4, .int j21_L4)] → W p l e R s m ([.ref a0, .int x1] : List Value).toArray below meth c H locs 0 0 Q (F0 m 21 ls []) := by
      intro n
      induction n with
      | zero => intro j21_L3 j21_L4 H locs ls hms; exact absurd hms (Nat.not_lt_zero _)
      | succ n ih21 =>
        intro j21_L3 j21_L4 H locs ls hms21 hj21_L3 hj21_L4 hT hS hl
        refine lv_iload hx hb dX9_idle_21 (lv_at hl 4 rfl) ?_
        refine lv_iload_n hx hb dX9_idle_23 rfl (lv_at hl 1 rfl) ?_
        refine lv_icmp_ge (tgt := 52) hx hb dX9_idle_24 (by decide) (fun c24 => ?_) (fun c24 => ?_)
        · skip
          have f24 := i_le c24
          have hj21_L4_24r : iv j21_L4 1 30 := iv_ler hx1_5p hj21_L4 c24 (by decide)
          refine lv_iload_n hx hb dX9_idle_52 rfl (lv_at hl 3 rfl) ?_
          exact ret _ _ _ _ _ dX9_idle_53 (hT) hS
        · skip
          have f24 := i_nle c24
          have hj21_L4_24l : iv j21_L4 0 29 := iv_ltl hj21_L4 hx1_5p (Int32.not_le.mp c24) (by decide)
          refine lv_aload_n hx hb dX9_idle_27 rfl (lv_at hl 0 rfl) ?_
          refine ti_getr hx hb hts inlX9 hown hK hT ha0 rfl rfl rfl 8 (by decide) (hts _ kw_38) (fun _ h9 => h9) rfl dX9_idle_28 (fun v28 hv28 hm28 => ?_)
          refine lv_aload_n hx hb dX9_idle_31 rfl (lv_at hl 2 rfl) ?_
          refine lv_iconst (v := 1) hx hb dX9_idle_32 (by decide) ?_
          refine ti_callv (va_runV (As := [.ref v12, .int (1 : Int32)]) (rest := []) ⟨hx, hb, hml, hown, hts⟩ (t_X8_pass l hT hv28 hv12 (iv_w (iv_c (x := (1 : Int32)) (k := 1) (by decide)) (by decide))) (cwV 2 hts (good_V kw_840 kw_841 kw_842 kw_37 kw_843) rfl rfl rfl (by decide +kernel) ⟨by rw [hR]; decide, by rw [hR]; decide⟩) (ti_preV hK hT hv28 rfl rfl) rfl rfl hl.1 rfl (lv_room (Nat.le_of_ble_eq_true rfl)) dX9_idle_33 ⟨Nat.zero_le _, Nat.zero_le _⟩) hS (pW_sub rfl) (fun H locs hB hS _ hk33 => ?_)
          have hT := hB
          refine lv_iload_n hx hb dX9_idle_36 rfl (lv_at hl 3 rfl) ?_
          refine lv_aload_n hx hb dX9_idle_37 rfl (lv_at hl 0 rfl) ?_
          refine ti_getE (ci := 9) (v := .ref v28) hx hb hts inlX9 hown hK (hm28.call hk33 (pW_not ha0 rfl)) rfl (by decide) (hts _ kw_38) (fun _ h9 => h9) dX9_idle_38 ?_
          refine ti_geti hx hb hts inlX8 hown hK hT hv28 rfl rfl rfl 4 (by decide) (hts _ kw_1165) (fun _ h9 => h9) rfl dX9_idle_41 (fun v41 hv41 hm41 => ?_)
          refine lv_iadd hx hb dX9_idle_44 ?_
          refine lv_topi (fun v44 e44 => ?_)
          have hv44 : iv v44 (-2147483648) 2147483647 := iv_top _
          refine lv_istore_n (lv' := [(3, .int v44), (0, .ref a0), (1, .int x1), (2, .ref v12), (4, .int j21_L4)]) hx hb dX9_idle_45 rfl hl (by decide) rfl (fun ls hl => ?_)
          obtain ⟨v46, e46⟩ : ∃ y : Int32, y = j21_L4 + 1 := ⟨_, rfl⟩
          have hv46 : iv v46 1 30 := by rw [e46]; exact iv_w (iv_add hj21_L4_24l (iv_c (x := (1 : Int32)) (k := 1) (by decide)) (by decide)) (by decide)
          have s46 : v46.toInt = j21_L4.toInt + 1 := by rw [e46, iv_addE hj21_L4_24l (iv_c (x := (1 : Int32)) (k := 1) (by decide)) (by decide)]; rfl
          refine lv_iinc (v := v46) (lv' := [(4, .int v46), (3, .int v44), (0, .ref a0), (1, .int x1), (2, .ref v12)]) hx hb dX9_idle_46 hl (k := 4) rfl (by rw [e46]; rfl) (by decide) rfl (fun ls hl => ?_)
          refine lv_goto (tgt := 21) hx hb dX9_idle_49 (by decide) ?_
          exact ih21 v44 v46 _ _ _ (ms_up hms21 (by have := s46; omega) (iv_w (c := 1) (d := 30) hv46 (by decide)).2) (iv_w hv44 (by decide)) (iv_w hv46 (by decide)) hT hS (lv_sub hl [2, 3, 4, 1, 0] rfl)
    refine lv_istore (lv' := [(4, .int (0 : Int32)), (3, .int (0 : Int32)), (2, .ref v12), (0, .ref a0), (1, .int x1)]) hx hb dX9_idle_19 hl (by decide) rfl (fun ls hl => ?_)
    exact J21 _ (0 : Int32) (0 : Int32) _ _ _ (Nat.lt_succ_self _) (iv_w (iv_c (x := (0 : Int32)) (k := 0) (by decide)) (by decide)) (iv_w (iv_c (x := (0 : Int32)) (k := 0) (by decide)) (by decide)) hT hS (lv_sub hl [3, 4, 2, 1, 0] rfl)
  · skip
    have kl0 : (0 : Int32).toInt = 0 := by decide
    have f5 := i_eq c5
    have hv2_5l : iv v2 0 0 := iv_eql hv2 (iv_c (x := (0 : Int32)) (k := 0) (by decide)) c5 (by decide)
    refine lv_bipush (v := (-2)) hx hb dX9_idle_8 (by decide) ?_
    exact ret _ _ _ _ _ dX9_idle_10 (hT) hS
set_option maxHeartbeats 4000000 in
set_option maxRecDepth 100000 in
theorem t_X9_spread (l : Launch) {D : va_G} {c0 : Nat → ClassId} {Y : Nat → Option Nat} {ν : Nat → Nat} {H : Heap} (hT : TI D vwCl (tysOf c0) (RTg ν) Y H) {a0 : Nat} (ha0 : Y a0 = some 9) : Met l yX9_spread (wz yX9_spread cX9_spread 1 (some .int)) { frames := 2, cells := 0, slots := 0, locals := 83 } (TP D vwCl (tysOf c0) H [.ref a0]) (TQi (fun x H' => H' = H) Y []) 0 0 (pW Y []) := by
  refine Met.ofW (cc := cX9_spread) (maxL := 1) (ret := (some .int)) (by decide) rfl ?_
  intro p e s m args below meth c s₁ B hml hv
  obtain ⟨rfl, rfl, hK⟩ := hv
  have hx := B.exec
  have hb := B.bytes
  have hr := B.returns
  have hts : ∀ w ∈ wq, w.before _ s = true := fun w h => atoms_spec (ws := wz yX9_spread cX9_spread 1 (some .int)) B.pre w (List.mem_cons_of_mem _ h)
  have hown : s.vm.findClass RX9 = some m.cls := findClass_of_methodNamed B.named
  have hlocks := B.notSynchronized
  obtain ⟨R, hR⟩ : ∃ R : Room, R = ({ frames := 2, cells := 0, slots := 0, locals := 83 } : Room) := ⟨_, rfl⟩
  rw [show (headSpec (wz yX9_spread cX9_spread 1 (some .int)) { frames := 2, cells := 0, slots := 0, locals := 83 }).room = R from hR.symm]
  refine ti_mi hx hb hr hlocks (fun Q ret => ?_)
  have hl := lv_entry [.ref a0] (n := 1) (Nat.le_of_ble_eq_true rfl)
  rw [lg_entry_eq]
  generalize (lg_sl [.ref a0] ++ List.replicate (1 - (lg_sl [.ref a0]).length) Slot.unset).toArray = ls at hl ⊢
  have hl : lv_has ls 1 [(0, .ref a0)] := hl
  have hS : va_S (pW Y []) s.heap s.heap [] := va_S.rf
  refine lv_aload_n hx hb dX9_spread_0 rfl (lv_at hl 0 rfl) ?_
  refine ti_getr hx hb hts inlX9 hown hK hT ha0 rfl rfl rfl 1 (by decide) (hts _ kw_20) (fun _ h9 => h9) rfl dX9_spread_1 (fun v1 hv1 hm1 => ?_)
  refine ti_calli (va_runV (As := []) (rest := []) ⟨hx, hb, hml, hown, hts⟩ (t_X7_spreadOut l hT hv1) (cwV 0 hts (good_V kw_1174 kw_1175 kw_1176 kw_19 kw_1177) rfl rfl rfl (by decide +kernel) ⟨by rw [hR]; decide, by rw [hR]; decide⟩) (ti_preV hK hT hv1 rfl rfl) rfl rfl hl.1 rfl (lv_room (Nat.le_of_ble_eq_true rfl)) dX9_spread_4 ⟨Nat.zero_le _, Nat.zero_le _⟩) hS (pW_sub rfl) (fun v4 H1 locs hB hS _ hk4 => ?_)
  have hH := hB
  rw [hH] at hS ⊢
  exact ret _ _ _ _ _ dX9_spread_7 (rfl) hS
set_option maxHeartbeats 4000000 in
set_option maxRecDepth 100000 in
theorem t_X9_beside (l : Launch) {D : va_G} {c0 : Nat → ClassId} {Y : Nat → Option Nat} {ν : Nat → Nat} {H : Heap} (hT : TI D vwCl (tysOf c0) (RTg ν) Y H) {a0 : Nat} (ha0 : Y a0 = some 9) {x1 : Int32} (hx1 : iv x1 (-2147483648) 2147483647) {x2 : Int32} (hx2 : iv x2 (-2147483648) 2147483647) : Met l yX9_beside (wz yX9_beside cX9_beside 7 (some .int)) { frames := 6, cells := 0, slots := 0, locals := 166 } (TP D vwCl (tysOf c0) H [.ref a0, .int x1, .int x2]) (TQi (fun x H' => TI D vwCl (tysOf c0) (RTg ν) Y H') Y [0, 1, 2, 3, 4, 7, 8, 20, 22, 28, 29]) 0 0 (pW Y [0, 1, 2, 3, 4, 7, 8, 20, 22, 28, 29]) := by
  refine Met.ofW (cc := cX9_beside) (maxL := 7) (ret := (some .int)) (by decide) rfl ?_
  intro p e s m args below meth c s₁ B hml hv
  obtain ⟨rfl, rfl, hK⟩ := hv
  have hx := B.exec
  have hb := B.bytes
  have hr := B.returns
  have hts : ∀ w ∈ wq, w.before _ s = true := fun w h => atoms_spec (ws := wz yX9_beside cX9_beside 7 (some .int)) B.pre w (List.mem_cons_of_mem _ h)
  have hown : s.vm.findClass RX9 = some m.cls := findClass_of_methodNamed B.named
  have hlocks := B.notSynchronized
  obtain ⟨R, hR⟩ : ∃ R : Room, R = ({ frames := 6, cells := 0, slots := 0, locals := 166 } : Room) := ⟨_, rfl⟩
  rw [show (headSpec (wz yX9_beside cX9_beside 7 (some .int)) { frames := 6, cells := 0, slots := 0, locals := 166 }).room = R from hR.symm]
  refine ti_mi hx hb hr hlocks (fun Q ret => ?_)
  have hl := lv_entry [.ref a0, .int x1, .int x2] (n := 7) (Nat.le_of_ble_eq_true rfl)
  rw [lg_entry_eq]
  generalize (lg_sl [.ref a0, .int x1, .int x2] ++ List.replicate (7 - (lg_sl [.ref a0, .int x1, .int x2]).length) Slot.unset).toArray = ls at hl ⊢
  have hl : lv_has ls 7 [(0, .ref a0), (1, .int x1), (2, .int x2)] := hl
  refine ti_gen (P := fun H => TI D vwCl (tysOf c0) (RTg ν) Y H) (Y := Y) (ws := [0, 1, 2, 3, 4, 7, 8, 20, 22, 28, 29]) hT (fun H locs hT hS => ?_)
  refine lv_aload_n hx hb dX9_beside_0 rfl (lv_at hl 0 rfl) ?_
  refine lv_iload_n hx hb dX9_beside_1 rfl (lv_at hl 1 rfl) ?_
  refine ti_calli (va_runV (As := [.int x1]) (rest := []) ⟨hx, hb, hml, hown, hts⟩ (t_X9_canPass l hT ha0 (iv_w hx1 (by decide))) (cwV 1 hts (good_V kw_833 kw_834 kw_835 kw_2 kw_836) rfl rfl rfl (by decide +kernel) ⟨by rw [hR]; decide, by rw [hR]; decide⟩) (ti_preV hK hT ha0 rfl rfl) rfl rfl hl.1 rfl (lv_room (Nat.le_of_ble_eq_true rfl)) dX9_beside_2 ⟨Nat.zero_le _, Nat.zero_le _⟩) hS (pW_sub rfl) (fun v2 H1 locs hB hS _ hk2 => ?_)
  obtain ⟨hH, hv2, hp2⟩ := hB
  rw [hH] at hS ⊢
  refine lv_if_eq (tgt := 17) hx hb dX9_beside_5 (by decide) (fun c5 => ?_) (fun c5 => ?_)
  · skip
    have kl0 : (0 : Int32).toInt = 0 := by decide
    have f5 := i_eq c5
    have hv2_5l : iv v2 0 0 := iv_eql hv2 (iv_c (x := (0 : Int32)) (k := 0) (by decide)) c5 (by decide)
    refine lv_ldc (v := (-2000000000)) hx hb hown (hts _ kw_1003) dX9_beside_17 ?_
    exact ret _ _ _ _ _ dX9_beside_19 (hT) hS
  · skip
    have kl0 : (0 : Int32).toInt = 0 := by decide
    have f5 := i_ne c5
    have hv2_5l : iv v2 1 1 := iv_nel hv2 (iv_c (x := (0 : Int32)) (k := 0) (by decide)) c5 (by decide)
    have hx1_5p : iv x1 1 30 := by have b0a := (hx1).1; have b0b := (hx1).2; exact ⟨by omega, by omega⟩
    refine lv_iload_n hx hb dX9_beside_8 rfl (lv_at hl 2 rfl) ?_
    refine lv_if_lt (tgt := 17) hx hb dX9_beside_9 (by decide) (fun c9 => ?_) (fun c9 => ?_)
    · skip
      have f9 := i_lt c9
      have hx2_9l : iv x2 (-2147483648) (-1) := iv_ltl hx2 (iv_c (x := (0 : Int32)) (k := 0) (by decide)) c9 (by decide)
      refine lv_ldc (v := (-2000000000)) hx hb hown (hts _ kw_1003) dX9_beside_17 ?_
      exact ret _ _ _ _ _ dX9_beside_19 (hT) hS
    · skip
      have f9 := i_nlt c9
      have hx2_9r : iv x2 0 2147483647 := iv_ler (iv_c (x := (0 : Int32)) (k := 0) (by decide)) hx2 (Int32.not_lt.mp c9) (by decide)
      refine lv_iload_n hx hb dX9_beside_12 rfl (lv_at hl 2 rfl) ?_
      refine lv_iconst (v := 4) hx hb dX9_beside_13 (by decide) ?_
      refine lv_icmp_le (tgt := 20) hx hb dX9_beside_14 (by decide) (fun c14 => ?_) (fun c14 => ?_)
      · skip
        have kl4 : (4 : Int32).toInt = 4 := by decide
        have f14 := i_le c14
        have hx2_14l : iv x2 0 4 := iv_lel hx2_9r (iv_c (x := (4 : Int32)) (k := 4) (by decide)) c14 (by decide)
        refine lv_iload_n hx hb dX9_beside_20 rfl (lv_at hl 2 rfl) ?_
        refine lv_iconst (v := 1) hx hb dX9_beside_21 (by decide) ?_
        have J35 : ∀ (j35_S0 : Int32) (H : Heap) (locs : List Loc) (ls : Array Slot), iv j35_S0 0 1 → TI D vwCl (tysOf c0) (RTg ν) Y H → va_S (pW Y [0, 1, 2, 3, 4, 7, 8, 20, 22, 28, 29]) s.heap H locs → lv_has ls 7 [(0, .ref a0), (1, .int x1), (2, .int x2)] → W p l e R s m ([.ref a0, .int x1, .int x2] : List Value).toArray below meth c H locs 0 0 Q (F0 m 35 ls [.int j35_S0]) := by
          intro j35_S0 H locs ls hj35_S0 hT hS hl
          refine lv_istore_n (lv' := [(3, .int j35_S0), (0, .ref a0), (1, .int x1), (2, .int x2)]) hx hb dX9_beside_35 rfl hl (by decide) rfl (fun ls hl => ?_)
          refine lv_aload_n hx hb dX9_beside_36 rfl (lv_at hl 1 rfl) ?_
          refine ti_callr (va_runV (As := []) (rest := []) ⟨hx, hb, hml, hown, hts⟩ (t_X9_startThought l hT ha0) (cwV 0 hts (good_V kw_802 kw_803 kw_804 kw_2 kw_805) rfl rfl rfl (by decide +kernel) ⟨by rw [hR]; decide, by rw [hR]; decide⟩) (ti_preV hK hT ha0 rfl rfl) rfl rfl hl.1 rfl (lv_room (Nat.le_of_ble_eq_true rfl)) dX9_beside_37 ⟨Nat.zero_le _, Nat.zero_le _⟩) hS (pW_sub rfl) (fun v37 H locs hB hS _ hk37 => ?_)
          obtain ⟨hT, hv37⟩ := hB
          refine lv_astore (lv' := [(4, .ref v37), (3, .int j35_S0), (0, .ref a0), (1, .int x1), (2, .int x2)]) hx hb dX9_beside_40 hl (by decide) rfl (fun ls hl => ?_)
          refine lv_iconst (v := 0) hx hb dX9_beside_42 (by decide) ?_
          refine lv_istore (lv' := [(5, .int (0 : Int32)), (4, .ref v37), (3, .int j35_S0), (0, .ref a0), (1, .int x1), (2, .int x2)]) hx hb dX9_beside_43 hl (by decide) rfl (fun ls hl => ?_)
          refine lv_iconst (v := 0) hx hb dX9_beside_45 (by decide) ?_
          have J48 : ∀ (n : Nat) (j48_L5 : Int32) (j48_L6 : Int32) (H : Heap) (locs : List Loc) (ls : Array Slot), (30 - j48_L6.toInt).toNat < n → iv j48_L5 (-2147483648) 2147483647 → iv j48_L6 0 30 → TI D vwCl (tysOf c0) (RTg ν) Y H → va_S (pW Y [0, 1, 2, 3, 4, 7, 8, 20, 22, 28, 29]) s.heap H locs → lv_has ls 7 [(0, .ref a0), (1, .int x1), (2, .int x2), (3, .int j35_S0), (4, .ref v37), (5, .int j48_L5), (6, .int j48_L6)] → W p l e R s m ([.ref a0, .int x1, .int x2] : List Value).toArray below meth c H locs 0 0 Q (F0 m 48 ls []) := by
            intro n
            induction n with
            | zero => intro j48_L5 j48_L6 H locs ls hms; exact absurd hms (Nat.not_lt_zero _)
            | succ n ih48 =>
              intro j48_L5 j48_L6 H locs ls hms48 hj48_L5 hj48_L6 hT hS hl
              refine lv_iload hx hb dX9_beside_48 (lv_at hl 6 rfl) ?_
              refine lv_iload_n hx hb dX9_beside_50 rfl (lv_at hl 1 rfl) ?_
              refine lv_icmp_ge (tgt := 82) hx hb dX9_beside_51 (by decide) (fun c51 => ?_) (fun c51 => ?_)
              · skip
                have f51 := i_le c51
                have hj48_L6_51r : iv j48_L6 1 30 := iv_ler hx1_5p hj48_L6 c51 (by decide)
                refine lv_iload_n hx hb dX9_beside_82 rfl (lv_at hl 2 rfl) ?_
                refine lv_iconst (v := 2) hx hb dX9_beside_83 (by decide) ?_
                refine lv_icmp_ge (tgt := 93) hx hb dX9_beside_84 (by decide) (fun c84 => ?_) (fun c84 => ?_)
                · skip
                  have kl2 : (2 : Int32).toInt = 2 := by decide
                  have f84 := i_le c84
                  have hx2_84r : iv x2 2 4 := iv_ler (iv_c (x := (2 : Int32)) (k := 2) (by decide)) hx2_14l c84 (by decide)
                  refine lv_iload_n hx hb dX9_beside_93 rfl (lv_at hl 2 rfl) ?_
                  refine lv_iconst (v := 2) hx hb dX9_beside_94 (by decide) ?_
                  refine lv_icmp_ne (tgt := 103) hx hb dX9_beside_95 (by decide) (fun c95 => ?_) (fun c95 => ?_)
                  · skip
                    have f95 := i_ne c95
                    have hx2_95l : iv x2 3 4 := iv_nel hx2_84r (iv_c (x := (2 : Int32)) (k := 2) (by decide)) c95 (by decide)
                    refine lv_aload hx hb dX9_beside_103 (lv_at hl 4 rfl) ?_
                    refine ti_calli (va_runV (As := []) (rest := []) ⟨hx, hb, hml, hown, hts⟩ (t_X7_goodOfAll l hT hv37) (cwV 0 hts (good_V kw_1194 kw_1195 kw_1196 kw_19 kw_1197) rfl rfl rfl (by decide +kernel) ⟨by rw [hR]; decide, by rw [hR]; decide⟩) (ti_preV hK hT hv37 rfl rfl) rfl rfl hl.1 rfl (lv_room (Nat.le_of_ble_eq_true rfl)) dX9_beside_105 ⟨Nat.zero_le _, Nat.zero_le _⟩) hS (pW_sub rfl) (fun v105 H1 locs hB hS _ hk105 => ?_)
                    have hH := hB
                    rw [hH] at hS ⊢
                    refine lv_aload_n hx hb dX9_beside_108 rfl (lv_at hl 0 rfl) ?_
                    refine ti_getr hx hb hts inlX9 hown hK hT ha0 rfl rfl rfl 1 (by decide) (hts _ kw_20) (fun _ h9 => h9) rfl dX9_beside_109 (fun v109 hv109 hm109 => ?_)
                    refine ti_calli (va_runV (As := []) (rest := [.int v105]) ⟨hx, hb, hml, hown, hts⟩ (t_X7_goodOfAll l hT hv109) (cwV 0 hts (good_V kw_1194 kw_1195 kw_1196 kw_19 kw_1197) rfl rfl rfl (by decide +kernel) ⟨by rw [hR]; decide, by rw [hR]; decide⟩) (ti_preV hK hT hv109 rfl rfl) rfl rfl hl.1 rfl (lv_room (Nat.le_of_ble_eq_true rfl)) dX9_beside_112 ⟨Nat.zero_le _, Nat.zero_le _⟩) hS (pW_sub rfl) (fun v112 H1 locs hB hS _ hk112 => ?_)
                    have hH := hB
                    rw [hH] at hS ⊢
                    refine lv_isub hx hb dX9_beside_115 ?_
                    refine lv_topi (fun v115 e115 => ?_)
                    have hv115 : iv v115 (-2147483648) 2147483647 := iv_top _
                    exact ret _ _ _ _ _ dX9_beside_116 (hT) hS
                  · skip
                    have f95 := i_eq c95
                    have hx2_95l : iv x2 2 2 := iv_eql hx2_84r (iv_c (x := (2 : Int32)) (k := 2) (by decide)) c95 (by decide)
                    refine lv_iload hx hb dX9_beside_98 (lv_at hl 5 rfl) ?_
                    refine lv_goto (tgt := 116) hx hb dX9_beside_100 (by decide) ?_
                    exact ret _ _ _ _ _ dX9_beside_116 (hT) hS
                · skip
                  have kl2 : (2 : Int32).toInt = 2 := by decide
                  have f84 := i_nle c84
                  have hx2_84l : iv x2 0 1 := iv_ltl hx2_14l (iv_c (x := (2 : Int32)) (k := 2) (by decide)) (Int32.not_le.mp c84) (by decide)
                  refine lv_aload hx hb dX9_beside_87 (lv_at hl 4 rfl) ?_
                  refine ti_calli (va_runV (As := []) (rest := []) ⟨hx, hb, hml, hown, hts⟩ (t_X7_spreadOut l hT hv37) (cwV 0 hts (good_V kw_1174 kw_1175 kw_1176 kw_19 kw_1177) rfl rfl rfl (by decide +kernel) ⟨by rw [hR]; decide, by rw [hR]; decide⟩) (ti_preV hK hT hv37 rfl rfl) rfl rfl hl.1 rfl (lv_room (Nat.le_of_ble_eq_true rfl)) dX9_beside_89 ⟨Nat.zero_le _, Nat.zero_le _⟩) hS (pW_sub rfl) (fun v89 H1 locs hB hS _ hk89 => ?_)
                  have hH := hB
                  rw [hH] at hS ⊢
                  exact ret _ _ _ _ _ dX9_beside_92 (hT) hS
              · skip
                have f51 := i_nle c51
                have hj48_L6_51l : iv j48_L6 0 29 := iv_ltl hj48_L6 hx1_5p (Int32.not_le.mp c51) (by decide)
                refine lv_aload_n hx hb dX9_beside_54 rfl (lv_at hl 0 rfl) ?_
                refine ti_getr hx hb hts inlX9 hown hK hT ha0 rfl rfl rfl 8 (by decide) (hts _ kw_38) (fun _ h9 => h9) rfl dX9_beside_55 (fun v55 hv55 hm55 => ?_)
                refine lv_aload hx hb dX9_beside_58 (lv_at hl 4 rfl) ?_
                refine lv_iload_n hx hb dX9_beside_60 rfl (lv_at hl 3 rfl) ?_
                refine ti_callv (va_runV (As := [.ref v37, .int j35_S0]) (rest := []) ⟨hx, hb, hml, hown, hts⟩ (t_X8_pass l hT hv55 hv37 (iv_w hj35_S0 (by decide))) (cwV 2 hts (good_V kw_840 kw_841 kw_842 kw_37 kw_843) rfl rfl rfl (by decide +kernel) ⟨by rw [hR]; decide, by rw [hR]; decide⟩) (ti_preV hK hT hv55 rfl rfl) rfl rfl hl.1 rfl (lv_room (Nat.le_of_ble_eq_true rfl)) dX9_beside_61 ⟨Nat.zero_le _, Nat.zero_le _⟩) hS (pW_sub rfl) (fun H locs hB hS _ hk61 => ?_)
                have hT := hB
                refine lv_iload hx hb dX9_beside_64 (lv_at hl 5 rfl) ?_
                refine lv_aload_n hx hb dX9_beside_66 rfl (lv_at hl 0 rfl) ?_
                refine ti_getE (ci := 9) (v := .ref v55) hx hb hts inlX9 hown hK (hm55.call hk61 (pW_not ha0 rfl)) rfl (by decide) (hts _ kw_38) (fun _ h9 => h9) dX9_beside_67 ?_
                refine ti_geti hx hb hts inlX8 hown hK hT hv55 rfl rfl rfl 3 (by decide) (hts _ kw_832) (fun _ h9 => h9) rfl dX9_beside_70 (fun v70 hv70 hm70 => ?_)
                refine lv_iadd hx hb dX9_beside_73 ?_
                refine lv_topi (fun v73 e73 => ?_)
                have hv73 : iv v73 (-2147483648) 2147483647 := iv_top _
                refine lv_istore (lv' := [(5, .int v73), (0, .ref a0), (1, .int x1), (2, .int x2), (3, .int j35_S0), (4, .ref v37), (6, .int j48_L6)]) hx hb dX9_beside_74 hl (by decide) rfl (fun ls hl => ?_)
                obtain ⟨v76, e76⟩ : ∃ y : Int32, y = j48_L6 + 1 := ⟨_, rfl⟩
                have hv76 : iv v76 1 30 := by rw [e76]; exact iv_w (iv_add hj48_L6_51l (iv_c (x := (1 : Int32)) (k := 1) (by decide)) (by decide)) (by decide)
                have s76 : v76.toInt = j48_L6.toInt + 1 := by rw [e76, iv_addE hj48_L6_51l (iv_c (x := (1 : Int32)) (k := 1) (by decide)) (by decide)]; rfl
                refine lv_iinc (v := v76) (lv' := [(6, .int v76), (5, .int v73), (0, .ref a0), (1, .int x1), (2, .int x2), (3, .int j35_S0), (4, .ref v37)]) hx hb dX9_beside_76 hl (k := 6) rfl (by rw [e76]; rfl) (by decide) rfl (fun ls hl => ?_)
                refine lv_goto (tgt := 48) hx hb dX9_beside_79 (by decide) ?_
                exact ih48 v73 v76 _ _ _ (ms_up hms48 (by have := s76; omega) (iv_w (c := 1) (d := 30) hv76 (by decide)).2) (iv_w hv73 (by decide)) (iv_w hv76 (by decide)) hT hS (lv_sub hl [2, 3, 4, 5, 6, 1, 0] rfl)
          refine lv_istore (lv' := [(6, .int (0 : Int32)), (5, .int (0 : Int32)), (4, .ref v37), (3, .int j35_S0), (0, .ref a0), (1, .int x1), (2, .int x2)]) hx hb dX9_beside_46 hl (by decide) rfl (fun ls hl => ?_)
          exact J48 _ (0 : Int32) (0 : Int32) _ _ _ (Nat.lt_succ_self _) (iv_w (iv_c (x := (0 : Int32)) (k := 0) (by decide)) (by decide)) (iv_w (iv_c (x := (0 : Int32)) (k := 0) (by decide)) (by decide)) hT hS (lv_sub hl [4, 5, 6, 3, 2, 1, 0] rfl)
        have J34 : ∀  (H : Heap) (locs : List Loc) (ls : Array Slot), TI D vwCl (tysOf c0) (RTg ν) Y H → va_S (pW Y [0, 1, 2, 3, 4, 7, 8, 20, 22, 28, 29]) s.heap H locs → lv_has ls 7 [(0, .ref a0), (1, .int x1), (2, .int x2)] → W p l e R s m ([.ref a0, .int x1, .int x2] : List Value).toArray below meth c H locs 0 0 Q (F0 m 34 ls []) := by
          intro  H locs ls  hT hS hl
          refine lv_iconst (v := 0) hx hb dX9_beside_34 (by decide) ?_
          exact J35 (0 : Int32) _ _ _  (iv_w (iv_c (x := (0 : Int32)) (k := 0) (by decide)) (by decide)) hT hS (lv_sub hl [0, 1, 2] rfl)
        refine lv_icmp_eq (tgt := 34) hx hb dX9_beside_22 (by decide) (fun c22 => ?_) (fun c22 => ?_)
        · skip
          have kl1 : (1 : Int32).toInt = 1 := by decide
          have f22 := i_eq c22
          have hx2_22l : iv x2 1 1 := iv_eql hx2_14l (iv_c (x := (1 : Int32)) (k := 1) (by decide)) c22 (by decide)
          exact J34  _ _ _   hT hS (lv_sub hl [0, 1, 2] rfl)
        · skip
          have kl1 : (1 : Int32).toInt = 1 := by decide
          have f22 := i_ne c22
          refine lv_iload_n hx hb dX9_beside_25 rfl (lv_at hl 2 rfl) ?_
          refine lv_iconst (v := 4) hx hb dX9_beside_26 (by decide) ?_
          refine lv_icmp_eq (tgt := 34) hx hb dX9_beside_27 (by decide) (fun c27 => ?_) (fun c27 => ?_)
          · skip
            have f27 := i_eq c27
            have hx2_27l : iv x2 4 4 := iv_eql hx2_14l (iv_c (x := (4 : Int32)) (k := 4) (by decide)) c27 (by decide)
            exact J34  _ _ _   hT hS (lv_sub hl [0, 1, 2] rfl)
          · skip
            have f27 := i_ne c27
            have hx2_27l : iv x2 0 3 := iv_nel hx2_14l (iv_c (x := (4 : Int32)) (k := 4) (by decide)) c27 (by decide)
            refine lv_iconst (v := 1) hx hb dX9_beside_30 (by decide) ?_
            refine lv_goto (tgt := 35) hx hb dX9_beside_31 (by decide) ?_
            exact J35 (1 : Int32) _ _ _  (iv_w (iv_c (x := (1 : Int32)) (k := 1) (by decide)) (by decide)) hT hS (lv_sub hl [0, 1, 2] rfl)
      · skip
        have kl4 : (4 : Int32).toInt = 4 := by decide
        have f14 := i_nle c14
        have hx2_14r : iv x2 5 2147483647 := iv_ltr (iv_c (x := (4 : Int32)) (k := 4) (by decide)) hx2_9r (Int32.not_le.mp c14) (by decide)
        refine lv_ldc (v := (-2000000000)) hx hb hown (hts _ kw_1003) dX9_beside_17 ?_
        exact ret _ _ _ _ _ dX9_beside_19 (hT) hS
set_option maxHeartbeats 4000000 in
set_option maxRecDepth 100000 in
theorem t_X9_law (l : Launch) {D : va_G} {c0 : Nat → ClassId} {Y : Nat → Option Nat} {ν : Nat → Nat} {H : Heap} (hT : TI D vwCl (tysOf c0) (RTg ν) Y H) {a0 : Nat} (ha0 : Y a0 = some 9) {x1 : Int32} (hx1 : iv x1 (-2147483648) 2147483647) {x2 : Int32} (hx2 : iv x2 (-2147483648) 2147483647) {x3 : Int32} (hx3 : iv x3 (-2147483648) 2147483647) {x4 : Int32} (hx4 : iv x4 0 1) : Met l yX9_law (wz yX9_law cX9_law 5 (some .int)) { frames := 0, cells := 0, slots := 0, locals := 0 } (TP D vwCl (tysOf c0) H [.ref a0, .int x1, .int x2, .int x3, .int x4]) (TQi (fun x H' => TI D vwCl (tysOf c0) (RTg ν) Y H' ∧ iv x (-2) 0) Y [0]) 0 0 (pW Y [0]) := by
  refine Met.ofW (cc := cX9_law) (maxL := 5) (ret := (some .int)) (by decide) rfl ?_
  intro p e s m args below meth c s₁ B hml hv
  obtain ⟨rfl, rfl, hK⟩ := hv
  have hx := B.exec
  have hb := B.bytes
  have hr := B.returns
  have hts : ∀ w ∈ wq, w.before _ s = true := fun w h => atoms_spec (ws := wz yX9_law cX9_law 5 (some .int)) B.pre w (List.mem_cons_of_mem _ h)
  have hown : s.vm.findClass RX9 = some m.cls := findClass_of_methodNamed B.named
  have hlocks := B.notSynchronized
  obtain ⟨R, hR⟩ : ∃ R : Room, R = ({ frames := 0, cells := 0, slots := 0, locals := 0 } : Room) := ⟨_, rfl⟩
  rw [show (headSpec (wz yX9_law cX9_law 5 (some .int)) { frames := 0, cells := 0, slots := 0, locals := 0 }).room = R from hR.symm]
  refine ti_mi hx hb hr hlocks (fun Q ret => ?_)
  have hl := lv_entry [.ref a0, .int x1, .int x2, .int x3, .int x4] (n := 5) (Nat.le_of_ble_eq_true rfl)
  rw [lg_entry_eq]
  generalize (lg_sl [.ref a0, .int x1, .int x2, .int x3, .int x4] ++ List.replicate (5 - (lg_sl [.ref a0, .int x1, .int x2, .int x3, .int x4]).length) Slot.unset).toArray = ls at hl ⊢
  have hl : lv_has ls 5 [(0, .ref a0), (1, .int x1), (2, .int x2), (3, .int x3), (4, .int x4)] := hl
  refine ti_gen (P := fun H => TI D vwCl (tysOf c0) (RTg ν) Y H) (Y := Y) (ws := [0]) hT (fun H locs hT hS => ?_)
  refine lv_aload_n hx hb dX9_law_0 rfl (lv_at hl 0 rfl) ?_
  refine ti_getr hx hb hts inlX9 hown hK hT ha0 rfl rfl rfl 1 (by decide) (hts _ kw_20) (fun _ h9 => h9) rfl dX9_law_1 (fun v1 hv1 hm1 => ?_)
  refine ti_geti hx hb hts inlX7 hown hK hT hv1 rfl rfl rfl 2 (by decide) (hts _ kw_189) (fun _ h9 => h9) rfl dX9_law_4 (fun v4 hv4 hm4 => ?_)
  refine lv_if_eq (tgt := 39) hx hb dX9_law_7 (by decide) (fun c7 => ?_) (fun c7 => ?_)
  · skip
    have kl0 : (0 : Int32).toInt = 0 := by decide
    have f7 := i_eq c7
    have hv4_7l : iv v4 0 0 := iv_eql hv4 (iv_c (x := (0 : Int32)) (k := 0) (by decide)) c7 (by decide)
    refine lv_bipush (v := (-2)) hx hb dX9_law_39 (by decide) ?_
    exact ret _ _ _ _ _ dX9_law_41 (⟨hT, iv_w (iv_c (x := (-2 : Int32)) (k := (-2)) (by decide)) (by decide)⟩) hS
  · skip
    have kl0 : (0 : Int32).toInt = 0 := by decide
    have f7 := i_ne c7
    refine lv_iload_n hx hb dX9_law_10 rfl (lv_at hl 1 rfl) ?_
    refine lv_if_lt (tgt := 39) hx hb dX9_law_11 (by decide) (fun c11 => ?_) (fun c11 => ?_)
    · skip
      have f11 := i_lt c11
      have hx1_11l : iv x1 (-2147483648) (-1) := iv_ltl hx1 (iv_c (x := (0 : Int32)) (k := 0) (by decide)) c11 (by decide)
      refine lv_bipush (v := (-2)) hx hb dX9_law_39 (by decide) ?_
      exact ret _ _ _ _ _ dX9_law_41 (⟨hT, iv_w (iv_c (x := (-2 : Int32)) (k := (-2)) (by decide)) (by decide)⟩) hS
    · skip
      have f11 := i_nlt c11
      have hx1_11r : iv x1 0 2147483647 := iv_ler (iv_c (x := (0 : Int32)) (k := 0) (by decide)) hx1 (Int32.not_lt.mp c11) (by decide)
      refine lv_iload_n hx hb dX9_law_14 rfl (lv_at hl 1 rfl) ?_
      refine lv_bipush (v := 30) hx hb dX9_law_15 (by decide) ?_
      refine lv_icmp_gt (tgt := 39) hx hb dX9_law_17 (by decide) (fun c17 => ?_) (fun c17 => ?_)
      · skip
        have kl30 : (30 : Int32).toInt = 30 := by decide
        have f17 := i_lt c17
        have hx1_17r : iv x1 31 2147483647 := iv_ltr (iv_c (x := (30 : Int32)) (k := 30) (by decide)) hx1_11r c17 (by decide)
        refine lv_bipush (v := (-2)) hx hb dX9_law_39 (by decide) ?_
        exact ret _ _ _ _ _ dX9_law_41 (⟨hT, iv_w (iv_c (x := (-2 : Int32)) (k := (-2)) (by decide)) (by decide)⟩) hS
      · skip
        have kl30 : (30 : Int32).toInt = 30 := by decide
        have f17 := i_nlt c17
        have hx1_17l : iv x1 0 30 := iv_lel hx1_11r (iv_c (x := (30 : Int32)) (k := 30) (by decide)) (Int32.not_lt.mp c17) (by decide)
        refine lv_iload_n hx hb dX9_law_20 rfl (lv_at hl 2 rfl) ?_
        refine lv_iconst (v := 2) hx hb dX9_law_21 (by decide) ?_
        refine lv_icmp_lt (tgt := 39) hx hb dX9_law_22 (by decide) (fun c22 => ?_) (fun c22 => ?_)
        · skip
          have kl2 : (2 : Int32).toInt = 2 := by decide
          have f22 := i_lt c22
          have hx2_22l : iv x2 (-2147483648) 1 := iv_ltl hx2 (iv_c (x := (2 : Int32)) (k := 2) (by decide)) c22 (by decide)
          refine lv_bipush (v := (-2)) hx hb dX9_law_39 (by decide) ?_
          exact ret _ _ _ _ _ dX9_law_41 (⟨hT, iv_w (iv_c (x := (-2 : Int32)) (k := (-2)) (by decide)) (by decide)⟩) hS
        · skip
          have kl2 : (2 : Int32).toInt = 2 := by decide
          have f22 := i_nlt c22
          have hx2_22r : iv x2 2 2147483647 := iv_ler (iv_c (x := (2 : Int32)) (k := 2) (by decide)) hx2 (Int32.not_lt.mp c22) (by decide)
          refine lv_iload_n hx hb dX9_law_25 rfl (lv_at hl 2 rfl) ?_
          refine lv_iconst (v := 4) hx hb dX9_law_26 (by decide) ?_
          refine lv_icmp_gt (tgt := 39) hx hb dX9_law_27 (by decide) (fun c27 => ?_) (fun c27 => ?_)
          · skip
            have kl4 : (4 : Int32).toInt = 4 := by decide
            have f27 := i_lt c27
            have hx2_27r : iv x2 5 2147483647 := iv_ltr (iv_c (x := (4 : Int32)) (k := 4) (by decide)) hx2_22r c27 (by decide)
            refine lv_bipush (v := (-2)) hx hb dX9_law_39 (by decide) ?_
            exact ret _ _ _ _ _ dX9_law_41 (⟨hT, iv_w (iv_c (x := (-2 : Int32)) (k := (-2)) (by decide)) (by decide)⟩) hS
          · skip
            have kl4 : (4 : Int32).toInt = 4 := by decide
            have f27 := i_nlt c27
            have hx2_27l : iv x2 2 4 := iv_lel hx2_22r (iv_c (x := (4 : Int32)) (k := 4) (by decide)) (Int32.not_lt.mp c27) (by decide)
            refine lv_iload_n hx hb dX9_law_30 rfl (lv_at hl 3 rfl) ?_
            refine lv_if_lt (tgt := 39) hx hb dX9_law_31 (by decide) (fun c31 => ?_) (fun c31 => ?_)
            · skip
              have f31 := i_lt c31
              have hx3_31l : iv x3 (-2147483648) (-1) := iv_ltl hx3 (iv_c (x := (0 : Int32)) (k := 0) (by decide)) c31 (by decide)
              refine lv_bipush (v := (-2)) hx hb dX9_law_39 (by decide) ?_
              exact ret _ _ _ _ _ dX9_law_41 (⟨hT, iv_w (iv_c (x := (-2 : Int32)) (k := (-2)) (by decide)) (by decide)⟩) hS
            · skip
              have f31 := i_nlt c31
              have hx3_31r : iv x3 0 2147483647 := iv_ler (iv_c (x := (0 : Int32)) (k := 0) (by decide)) hx3 (Int32.not_lt.mp c31) (by decide)
              refine lv_iload_n hx hb dX9_law_34 rfl (lv_at hl 3 rfl) ?_
              refine lv_iconst (v := 2) hx hb dX9_law_35 (by decide) ?_
              refine lv_icmp_le (tgt := 42) hx hb dX9_law_36 (by decide) (fun c36 => ?_) (fun c36 => ?_)
              · skip
                have f36 := i_le c36
                have hx3_36l : iv x3 0 2 := iv_lel hx3_31r (iv_c (x := (2 : Int32)) (k := 2) (by decide)) c36 (by decide)
                refine lv_aload_n hx hb dX9_law_42 rfl (lv_at hl 0 rfl) ?_
                refine ti_getE (ci := 9) (v := .ref v1) hx hb hts inlX9 hown hK hm1 rfl (by decide) (hts _ kw_20) (fun _ h9 => h9) dX9_law_43 ?_
                refine ti_getr hx hb hts inlX7 hown hK hT hv1 rfl rfl rfl 6 (by decide) (hts _ kw_575) (fun _ h9 => h9) rfl dX9_law_46 (fun v46 hv46 hm46 => ?_)
                refine lv_iload_n hx hb dX9_law_49 rfl (lv_at hl 1 rfl) ?_
                refine ti_put (ty := .int) hx hb hts inlX0 tyX0 tyX0_ok nmX0 hown hK hT hS hv46 rfl rfl rfl rfl 0 (by decide) (hts _ kw_1210) (fun _ h9 => h9) rfl rfl (by decide +kernel) rfl rfl ⟨x1, rfl, iv_w hx1_17l (by decide)⟩ (fun _ _ => trivial) dX9_law_50 (fun H locs hT hS oq50 he50 hk50 => ?_)
                refine lv_aload_n hx hb dX9_law_53 rfl (lv_at hl 0 rfl) ?_
                refine ti_getE (ci := 9) (v := .ref v1) hx hb hts inlX9 hown hK (hm1.kept (oq50 _ (ne_r ha0 hv46 rfl))) rfl (by decide) (hts _ kw_20) (fun _ h9 => h9) dX9_law_54 ?_
                refine ti_getE (ci := 7) (v := .ref v46) hx hb hts inlX7 hown hK (hm46.kept (oq50 _ (ne_r hv1 hv46 rfl))) rfl (by decide) (hts _ kw_575) (fun _ h9 => h9) dX9_law_57 ?_
                refine lv_iload_n hx hb dX9_law_60 rfl (lv_at hl 2 rfl) ?_
                refine ti_put (ty := .int) hx hb hts inlX0 tyX0 tyX0_ok nmX0 hown hK hT hS hv46 rfl rfl rfl rfl 1 (by decide) (hts _ kw_1211) (fun _ h9 => h9) rfl rfl (by decide +kernel) rfl rfl ⟨x2, rfl, iv_w hx2_27l (by decide)⟩ (fun _ _ => trivial) dX9_law_61 (fun H locs hT hS oq61 he61 hk61 => ?_)
                refine lv_aload_n hx hb dX9_law_64 rfl (lv_at hl 0 rfl) ?_
                refine ti_getE (ci := 9) (v := .ref v1) hx hb hts inlX9 hown hK ((hm1.kept (oq50 _ (ne_r ha0 hv46 rfl))).kept (oq61 _ (ne_r ha0 hv46 rfl))) rfl (by decide) (hts _ kw_20) (fun _ h9 => h9) dX9_law_65 ?_
                refine ti_getE (ci := 7) (v := .ref v46) hx hb hts inlX7 hown hK ((hm46.kept (oq50 _ (ne_r hv1 hv46 rfl))).kept (oq61 _ (ne_r hv1 hv46 rfl))) rfl (by decide) (hts _ kw_575) (fun _ h9 => h9) dX9_law_68 ?_
                refine lv_iload_n hx hb dX9_law_71 rfl (lv_at hl 3 rfl) ?_
                refine ti_put (ty := .int) hx hb hts inlX0 tyX0 tyX0_ok nmX0 hown hK hT hS hv46 rfl rfl rfl rfl 2 (by decide) (hts _ kw_1212) (fun _ h9 => h9) rfl rfl (by decide +kernel) rfl rfl ⟨x3, rfl, iv_w hx3_36l (by decide)⟩ (fun _ _ => trivial) dX9_law_72 (fun H locs hT hS oq72 he72 hk72 => ?_)
                refine lv_aload_n hx hb dX9_law_75 rfl (lv_at hl 0 rfl) ?_
                refine ti_getE (ci := 9) (v := .ref v1) hx hb hts inlX9 hown hK (((hm1.kept (oq50 _ (ne_r ha0 hv46 rfl))).kept (oq61 _ (ne_r ha0 hv46 rfl))).kept (oq72 _ (ne_r ha0 hv46 rfl))) rfl (by decide) (hts _ kw_20) (fun _ h9 => h9) dX9_law_76 ?_
                refine ti_getE (ci := 7) (v := .ref v46) hx hb hts inlX7 hown hK (((hm46.kept (oq50 _ (ne_r hv1 hv46 rfl))).kept (oq61 _ (ne_r hv1 hv46 rfl))).kept (oq72 _ (ne_r hv1 hv46 rfl))) rfl (by decide) (hts _ kw_575) (fun _ h9 => h9) dX9_law_79 ?_
                refine lv_iload hx hb dX9_law_82 (lv_at hl 4 rfl) ?_
                refine ti_put (ty := .boolean) hx hb hts inlX0 tyX0 tyX0_ok nmX0 hown hK hT hS hv46 rfl rfl rfl rfl 3 (by decide) (hts _ kw_1213) (fun _ h9 => h9) rfl rfl (by decide +kernel) (ti_nz (iv_w hx4 (by decide))).1 (ti_nz (iv_w hx4 (by decide))).2 ⟨x4, rfl, iv_w hx4 (by decide)⟩ (fun _ _ => trivial) dX9_law_84 (fun H locs hT hS oq84 he84 hk84 => ?_)
                refine lv_iconst (v := 0) hx hb dX9_law_87 (by decide) ?_
                exact ret _ _ _ _ _ dX9_law_88 (⟨hT, iv_w (iv_c (x := (0 : Int32)) (k := 0) (by decide)) (by decide)⟩) hS
              · skip
                have f36 := i_nle c36
                have hx3_36r : iv x3 3 2147483647 := iv_ltr (iv_c (x := (2 : Int32)) (k := 2) (by decide)) hx3_31r (Int32.not_le.mp c36) (by decide)
                refine lv_bipush (v := (-2)) hx hb dX9_law_39 (by decide) ?_
                exact ret _ _ _ _ _ dX9_law_41 (⟨hT, iv_w (iv_c (x := (-2 : Int32)) (k := (-2)) (by decide)) (by decide)⟩) hS
set_option maxHeartbeats 4000000 in
set_option maxRecDepth 100000 in
theorem t_X9_spreadByTies (l : Launch) {D : va_G} {c0 : Nat → ClassId} {Y : Nat → Option Nat} {ν : Nat → Nat} {H : Heap} (hT : TI D vwCl (tysOf c0) (RTg ν) Y H) {a0 : Nat} (ha0 : Y a0 = some 9) {x1 : Int32} (hx1 : iv x1 2 4) {x2 : Int32} (hx2 : iv x2 1 30) : Met l yX9_spreadByTies (wz yX9_spreadByTies cX9_spreadByTies 5 (some .int)) { frames := 6, cells := 0, slots := 0, locals := 166 } (TP D vwCl (tysOf c0) H [.ref a0, .int x1, .int x2]) (TQi (fun x H' => TI D vwCl (tysOf c0) (RTg ν) Y H') Y [0, 1, 2, 3, 4, 7, 8, 20, 22, 28, 29]) 0 0 (pW Y [0, 1, 2, 3, 4, 7, 8, 20, 22, 28, 29]) := by
  refine Met.ofW (cc := cX9_spreadByTies) (maxL := 5) (ret := (some .int)) (by decide) rfl ?_
  intro p e s m args below meth c s₁ B hml hv
  obtain ⟨rfl, rfl, hK⟩ := hv
  have hx := B.exec
  have hb := B.bytes
  have hr := B.returns
  have hts : ∀ w ∈ wq, w.before _ s = true := fun w h => atoms_spec (ws := wz yX9_spreadByTies cX9_spreadByTies 5 (some .int)) B.pre w (List.mem_cons_of_mem _ h)
  have hown : s.vm.findClass RX9 = some m.cls := findClass_of_methodNamed B.named
  have hlocks := B.notSynchronized
  obtain ⟨R, hR⟩ : ∃ R : Room, R = ({ frames := 6, cells := 0, slots := 0, locals := 166 } : Room) := ⟨_, rfl⟩
  rw [show (headSpec (wz yX9_spreadByTies cX9_spreadByTies 5 (some .int)) { frames := 6, cells := 0, slots := 0, locals := 166 }).room = R from hR.symm]
  refine ti_mi hx hb hr hlocks (fun Q ret => ?_)
  have hl := lv_entry [.ref a0, .int x1, .int x2] (n := 5) (Nat.le_of_ble_eq_true rfl)
  rw [lg_entry_eq]
  generalize (lg_sl [.ref a0, .int x1, .int x2] ++ List.replicate (5 - (lg_sl [.ref a0, .int x1, .int x2]).length) Slot.unset).toArray = ls at hl ⊢
  have hl : lv_has ls 5 [(0, .ref a0), (1, .int x1), (2, .int x2)] := hl
  refine ti_gen (P := fun H => TI D vwCl (tysOf c0) (RTg ν) Y H) (Y := Y) (ws := [0, 1, 2, 3, 4, 7, 8, 20, 22, 28, 29]) hT (fun H locs hT hS => ?_)
  refine lv_aload_n hx hb dX9_spreadByTies_0 rfl (lv_at hl 0 rfl) ?_
  refine ti_callr (va_runV (As := []) (rest := []) ⟨hx, hb, hml, hown, hts⟩ (t_X9_startThought l hT ha0) (cwV 0 hts (good_V kw_802 kw_803 kw_804 kw_2 kw_805) rfl rfl rfl (by decide +kernel) ⟨by rw [hR]; decide, by rw [hR]; decide⟩) (ti_preV hK hT ha0 rfl rfl) rfl rfl hl.1 rfl (lv_room (Nat.le_of_ble_eq_true rfl)) dX9_spreadByTies_1 ⟨Nat.zero_le _, Nat.zero_le _⟩) hS (pW_sub rfl) (fun v1 H locs hB hS _ hk1 => ?_)
  obtain ⟨hT, hv1⟩ := hB
  refine lv_astore_n (lv' := [(3, .ref v1), (0, .ref a0), (1, .int x1), (2, .int x2)]) hx hb dX9_spreadByTies_4 rfl hl (by decide) rfl (fun ls hl => ?_)
  refine lv_aload_n hx hb dX9_spreadByTies_5 rfl (lv_at hl 0 rfl) ?_
  refine ti_getr hx hb hts inlX7 hown hK hT hv1 rfl rfl rfl 6 (by decide) (hts _ kw_575) (fun _ h9 => h9) rfl dX9_spreadByTies_6 (fun v6 hv6 hm6 => ?_)
  refine lv_iload_n hx hb dX9_spreadByTies_9 rfl (lv_at hl 2 rfl) ?_
  refine ti_put (ty := .int) hx hb hts inlX0 tyX0 tyX0_ok nmX0 hown hK hT hS hv6 rfl rfl rfl rfl 1 (by decide) (hts _ kw_1211) (fun _ h9 => h9) rfl rfl (by decide +kernel) rfl rfl ⟨x1, rfl, iv_w hx1 (by decide)⟩ (fun _ _ => trivial) dX9_spreadByTies_10 (fun H locs hT hS oq10 he10 hk10 => ?_)
  refine lv_iconst (v := 0) hx hb dX9_spreadByTies_13 (by decide) ?_
  have J16 : ∀ (n : Nat) (j16_L4 : Int32) (H : Heap) (locs : List Loc) (ls : Array Slot), (30 - j16_L4.toInt).toNat < n → iv j16_L4 0 30 → TI D vwCl (tysOf c0) (RTg ν) Y H → va_S (pW Y [0, 1, 2, 3, 4, 7, 8, 20, 22, 28, 29]) s.heap H locs → lv_has ls 5 [(0, .ref a0), (1, .int x1), (2, .int x2), (3, .ref v1), (4, .int j16_L4)] → W p l e R s m ([.ref a0, .int x1, .int x2] : List Value).toArray below meth c H locs 0 0 Q (F0 m 16 ls []) := by
    intro n
    induction n with
    | zero => intro j16_L4 H locs ls hms; exact absurd hms (Nat.not_lt_zero _)
    | succ n ih16 =>
      intro j16_L4 H locs ls hms16 hj16_L4 hT hS hl
      refine lv_iload hx hb dX9_spreadByTies_16 (lv_at hl 4 rfl) ?_
      refine lv_iload_n hx hb dX9_spreadByTies_18 rfl (lv_at hl 2 rfl) ?_
      refine lv_icmp_ge (tgt := 37) hx hb dX9_spreadByTies_19 (by decide) (fun c19 => ?_) (fun c19 => ?_)
      · skip
        have f19 := i_le c19
        have hj16_L4_19r : iv j16_L4 1 30 := iv_ler hx2 hj16_L4 c19 (by decide)
        refine lv_aload_n hx hb dX9_spreadByTies_37 rfl (lv_at hl 3 rfl) ?_
        refine ti_calli (va_runV (As := []) (rest := []) ⟨hx, hb, hml, hown, hts⟩ (t_X7_spreadOut l hT hv1) (cwV 0 hts (good_V kw_1174 kw_1175 kw_1176 kw_19 kw_1177) rfl rfl rfl (by decide +kernel) ⟨by rw [hR]; decide, by rw [hR]; decide⟩) (ti_preV hK hT hv1 rfl rfl) rfl rfl hl.1 rfl (lv_room (Nat.le_of_ble_eq_true rfl)) dX9_spreadByTies_38 ⟨Nat.zero_le _, Nat.zero_le _⟩) hS (pW_sub rfl) (fun v38 H1 locs hB hS _ hk38 => ?_)
        have hH := hB
        rw [hH] at hS ⊢
        exact ret _ _ _ _ _ dX9_spreadByTies_41 (hT) hS
      · skip
        have f19 := i_nle c19
        have hj16_L4_19l : iv j16_L4 0 29 := iv_ltl hj16_L4 hx2 (Int32.not_le.mp c19) (by decide)
        refine lv_aload_n hx hb dX9_spreadByTies_22 rfl (lv_at hl 0 rfl) ?_
        refine ti_getr hx hb hts inlX9 hown hK hT ha0 rfl rfl rfl 8 (by decide) (hts _ kw_38) (fun _ h9 => h9) rfl dX9_spreadByTies_23 (fun v23 hv23 hm23 => ?_)
        refine lv_aload_n hx hb dX9_spreadByTies_26 rfl (lv_at hl 3 rfl) ?_
        refine lv_iconst (v := 1) hx hb dX9_spreadByTies_27 (by decide) ?_
        refine ti_callv (va_runV (As := [.ref v1, .int (1 : Int32)]) (rest := []) ⟨hx, hb, hml, hown, hts⟩ (t_X8_pass l hT hv23 hv1 (iv_w (iv_c (x := (1 : Int32)) (k := 1) (by decide)) (by decide))) (cwV 2 hts (good_V kw_840 kw_841 kw_842 kw_37 kw_843) rfl rfl rfl (by decide +kernel) ⟨by rw [hR]; decide, by rw [hR]; decide⟩) (ti_preV hK hT hv23 rfl rfl) rfl rfl hl.1 rfl (lv_room (Nat.le_of_ble_eq_true rfl)) dX9_spreadByTies_28 ⟨Nat.zero_le _, Nat.zero_le _⟩) hS (pW_sub rfl) (fun H locs hB hS _ hk28 => ?_)
        have hT := hB
        obtain ⟨v31, e31⟩ : ∃ y : Int32, y = j16_L4 + 1 := ⟨_, rfl⟩
        have hv31 : iv v31 1 30 := by rw [e31]; exact iv_w (iv_add hj16_L4_19l (iv_c (x := (1 : Int32)) (k := 1) (by decide)) (by decide)) (by decide)
        have s31 : v31.toInt = j16_L4.toInt + 1 := by rw [e31, iv_addE hj16_L4_19l (iv_c (x := (1 : Int32)) (k := 1) (by decide)) (by decide)]; rfl
        refine lv_iinc (v := v31) (lv' := [(4, .int v31), (0, .ref a0), (1, .int x1), (2, .int x2), (3, .ref v1)]) hx hb dX9_spreadByTies_31 hl (k := 4) rfl (by rw [e31]; rfl) (by decide) rfl (fun ls hl => ?_)
        refine lv_goto (tgt := 16) hx hb dX9_spreadByTies_34 (by decide) ?_
        exact ih16 v31 _ _ _ (ms_up hms16 (by have := s31; omega) (iv_w (c := 1) (d := 30) hv31 (by decide)).2) (iv_w hv31 (by decide)) hT hS (lv_sub hl [1, 2, 3, 4, 0] rfl)
  refine lv_istore (lv' := [(4, .int (0 : Int32)), (3, .ref v1), (0, .ref a0), (1, .int x1), (2, .int x2)]) hx hb dX9_spreadByTies_14 hl (by decide) rfl (fun ls hl => ?_)
  exact J16 _ (0 : Int32) _ _ _ (Nat.lt_succ_self _) (iv_w (iv_c (x := (0 : Int32)) (k := 0) (by decide)) (by decide)) hT hS (lv_sub hl [2, 3, 4, 1, 0] rfl)
set_option maxHeartbeats 4000000 in
set_option maxRecDepth 100000 in
theorem t_X9_laws (l : Launch) {D : va_G} {c0 : Nat → ClassId} {Y : Nat → Option Nat} {ν : Nat → Nat} {H : Heap} (hT : TI D vwCl (tysOf c0) (RTg ν) Y H) {a0 : Nat} (ha0 : Y a0 = some 9) {x1 : Int32} (hx1 : iv x1 (-2147483648) 2147483647) : Met l yX9_laws (wz yX9_laws cX9_laws 6 (some .int)) { frames := 7, cells := 0, slots := 0, locals := 190 } (TP D vwCl (tysOf c0) H [.ref a0, .int x1]) (TQi (fun x H' => TI D vwCl (tysOf c0) (RTg ν) Y H' ∧ iv x (-2) 4) Y [0, 1, 2, 3, 4, 7, 8, 20, 22, 28, 29]) 0 0 (pW Y [0, 1, 2, 3, 4, 7, 8, 20, 22, 28, 29]) := by
  refine Met.ofW (cc := cX9_laws) (maxL := 6) (ret := (some .int)) (by decide) rfl ?_
  intro p e s m args below meth c s₁ B hml hv
  obtain ⟨rfl, rfl, hK⟩ := hv
  have hx := B.exec
  have hb := B.bytes
  have hr := B.returns
  have hts : ∀ w ∈ wq, w.before _ s = true := fun w h => atoms_spec (ws := wz yX9_laws cX9_laws 6 (some .int)) B.pre w (List.mem_cons_of_mem _ h)
  have hown : s.vm.findClass RX9 = some m.cls := findClass_of_methodNamed B.named
  have hlocks := B.notSynchronized
  obtain ⟨R, hR⟩ : ∃ R : Room, R = ({ frames := 7, cells := 0, slots := 0, locals := 190 } : Room) := ⟨_, rfl⟩
  rw [show (headSpec (wz yX9_laws cX9_laws 6 (some .int)) { frames := 7, cells := 0, slots := 0, locals := 190 }).room = R from hR.symm]
  refine ti_mi hx hb hr hlocks (fun Q ret => ?_)
  have hl := lv_entry [.ref a0, .int x1] (n := 6) (Nat.le_of_ble_eq_true rfl)
  rw [lg_entry_eq]
  generalize (lg_sl [.ref a0, .int x1] ++ List.replicate (6 - (lg_sl [.ref a0, .int x1]).length) Slot.unset).toArray = ls at hl ⊢
  have hl : lv_has ls 6 [(0, .ref a0), (1, .int x1)] := hl
  refine ti_gen (P := fun H => TI D vwCl (tysOf c0) (RTg ν) Y H) (Y := Y) (ws := [0, 1, 2, 3, 4, 7, 8, 20, 22, 28, 29]) hT (fun H locs hT hS => ?_)
  refine lv_aload_n hx hb dX9_laws_0 rfl (lv_at hl 0 rfl) ?_
  refine lv_iload_n hx hb dX9_laws_1 rfl (lv_at hl 1 rfl) ?_
  refine ti_calli (va_runV (As := [.int x1]) (rest := []) ⟨hx, hb, hml, hown, hts⟩ (t_X9_canPass l hT ha0 (iv_w hx1 (by decide))) (cwV 1 hts (good_V kw_833 kw_834 kw_835 kw_2 kw_836) rfl rfl rfl (by decide +kernel) ⟨by rw [hR]; decide, by rw [hR]; decide⟩) (ti_preV hK hT ha0 rfl rfl) rfl rfl hl.1 rfl (lv_room (Nat.le_of_ble_eq_true rfl)) dX9_laws_2 ⟨Nat.zero_le _, Nat.zero_le _⟩) hS (pW_sub rfl) (fun v2 H1 locs hB hS _ hk2 => ?_)
  obtain ⟨hH, hv2, hp2⟩ := hB
  rw [hH] at hS ⊢
  refine lv_if_ne (tgt := 11) hx hb dX9_laws_5 (by decide) (fun c5 => ?_) (fun c5 => ?_)
  · skip
    have kl0 : (0 : Int32).toInt = 0 := by decide
    have f5 := i_ne c5
    have hv2_5l : iv v2 1 1 := iv_nel hv2 (iv_c (x := (0 : Int32)) (k := 0) (by decide)) c5 (by decide)
    have hx1_5p : iv x1 1 30 := by have b0a := (hx1).1; have b0b := (hx1).2; exact ⟨by omega, by omega⟩
    refine lv_iconst (v := 2) hx hb dX9_laws_11 (by decide) ?_
    refine lv_istore_n (lv' := [(2, .int (2 : Int32)), (0, .ref a0), (1, .int x1)]) hx hb dX9_laws_12 rfl hl (by decide) rfl (fun ls hl => ?_)
    refine lv_aload_n hx hb dX9_laws_13 rfl (lv_at hl 1 rfl) ?_
    refine lv_iload_n hx hb dX9_laws_14 rfl (lv_at hl 0 rfl) ?_
    refine lv_iload_n hx hb dX9_laws_15 rfl (lv_at hl 2 rfl) ?_
    refine ti_calli (va_runV (As := [.int (2 : Int32), .int x1]) (rest := []) ⟨hx, hb, hml, hown, hts⟩ (t_X9_spreadByTies l hT ha0 (iv_w (iv_c (x := (2 : Int32)) (k := 2) (by decide)) (by decide)) (iv_w hx1_5p (by decide))) (cwV 2 hts (good_V kw_1223 kw_1224 kw_1225 kw_2 kw_1226) rfl rfl rfl (by decide +kernel) ⟨by rw [hR]; decide, by rw [hR]; decide⟩) (ti_preV hK hT ha0 rfl rfl) rfl rfl hl.1 rfl (lv_room (Nat.le_of_ble_eq_true rfl)) dX9_laws_16 ⟨Nat.zero_le _, Nat.zero_le _⟩) hS (pW_sub rfl) (fun v16 H locs hB hS _ hk16 => ?_)
    have hT := hB
    have kl2 : (2 : Int32).toInt = 2 := by decide
    refine lv_istore_n (lv' := [(3, .int v16), (2, .int (2 : Int32)), (0, .ref a0), (1, .int x1)]) hx hb dX9_laws_19 rfl hl (by decide) rfl (fun ls hl => ?_)
    refine lv_iconst (v := 3) hx hb dX9_laws_20 (by decide) ?_
    have J23 : ∀ (n : Nat) (j23_L2 : Int32) (j23_L3 : Int32) (j23_L4 : Int32) (H : Heap) (locs : List Loc) (ls : Array Slot), (5 - j23_L4.toInt).toNat < n → iv j23_L2 2 4 → iv j23_L3 (-2147483648) 2147483647 → iv j23_L4 3 5 → TI D vwCl (tysOf c0) (RTg ν) Y H → va_S (pW Y [0, 1, 2, 3, 4, 7, 8, 20, 22, 28, 29]) s.heap H locs → lv_has ls 6 [(0, .ref a0), (1, .int x1), (2, .int j23_L2), (3, .int j23_L3), (4, .int j23_L4)] → W p l e R s m ([.ref a0, .int x1] : List Value).toArray below meth c H locs 0 0 Q (F0 m 23 ls []) := by
      intro n
      induction n with
      | zero => intro j23_L2 j23_L3 j23_L4 H locs ls hms; exact absurd hms (Nat.not_lt_zero _)
      | succ n ih23 =>
        intro j23_L2 j23_L3 j23_L4 H locs ls hms23 hj23_L2 hj23_L3 hj23_L4 hT hS hl
        refine lv_iload hx hb dX9_laws_23 (lv_at hl 4 rfl) ?_
        refine lv_iconst (v := 4) hx hb dX9_laws_25 (by decide) ?_
        refine lv_icmp_gt (tgt := 56) hx hb dX9_laws_26 (by decide) (fun c26 => ?_) (fun c26 => ?_)
        · skip
          have kl4 : (4 : Int32).toInt = 4 := by decide
          have f26 := i_lt c26
          have hj23_L4_26r : iv j23_L4 5 5 := iv_ltr (iv_c (x := (4 : Int32)) (k := 4) (by decide)) hj23_L4 c26 (by decide)
          refine lv_iload_n hx hb dX9_laws_56 rfl (lv_at hl 2 rfl) ?_
          exact ret _ _ _ _ _ dX9_laws_57 (⟨hT, iv_w hj23_L2 (by decide)⟩) hS
        · skip
          have kl4 : (4 : Int32).toInt = 4 := by decide
          have f26 := i_nlt c26
          have hj23_L4_26l : iv j23_L4 3 4 := iv_lel hj23_L4 (iv_c (x := (4 : Int32)) (k := 4) (by decide)) (Int32.not_lt.mp c26) (by decide)
          refine lv_aload_n hx hb dX9_laws_29 rfl (lv_at hl 0 rfl) ?_
          refine lv_iload hx hb dX9_laws_30 (lv_at hl 4 rfl) ?_
          refine lv_iload_n hx hb dX9_laws_32 rfl (lv_at hl 1 rfl) ?_
          refine ti_calli (va_runV (As := [.int j23_L4, .int x1]) (rest := []) ⟨hx, hb, hml, hown, hts⟩ (t_X9_spreadByTies l hT ha0 (iv_w hj23_L4_26l (by decide)) (iv_w hx1_5p (by decide))) (cwV 2 hts (good_V kw_1223 kw_1224 kw_1225 kw_2 kw_1226) rfl rfl rfl (by decide +kernel) ⟨by rw [hR]; decide, by rw [hR]; decide⟩) (ti_preV hK hT ha0 rfl rfl) rfl rfl hl.1 rfl (lv_room (Nat.le_of_ble_eq_true rfl)) dX9_laws_33 ⟨Nat.zero_le _, Nat.zero_le _⟩) hS (pW_sub rfl) (fun v33 H locs hB hS _ hk33 => ?_)
          have hT := hB
          refine lv_istore (lv' := [(5, .int v33), (0, .ref a0), (1, .int x1), (2, .int j23_L2), (3, .int j23_L3), (4, .int j23_L4)]) hx hb dX9_laws_36 hl (by decide) rfl (fun ls hl => ?_)
          refine lv_iload hx hb dX9_laws_38 (lv_at hl 0 rfl) ?_
          refine lv_iload_n hx hb dX9_laws_40 rfl (lv_at hl 4 rfl) ?_
          have J50 : ∀ (j50_L2 : Int32) (j50_L3 : Int32) (H : Heap) (locs : List Loc) (ls : Array Slot), iv j50_L2 2 4 → iv j50_L3 (-2147483648) 2147483647 → TI D vwCl (tysOf c0) (RTg ν) Y H → va_S (pW Y [0, 1, 2, 3, 4, 7, 8, 20, 22, 28, 29]) s.heap H locs → lv_has ls 6 [(0, .ref a0), (1, .int x1), (2, .int j50_L2), (3, .int j50_L3), (4, .int j23_L4), (5, .int v33)] → W p l e R s m ([.ref a0, .int x1] : List Value).toArray below meth c H locs 0 0 Q (F0 m 50 ls []) := by
            intro j50_L2 j50_L3 H locs ls hj50_L2 hj50_L3 hT hS hl
            obtain ⟨v50, e50⟩ : ∃ y : Int32, y = j23_L4 + 1 := ⟨_, rfl⟩
            have hv50 : iv v50 4 5 := by rw [e50]; exact iv_w (iv_add hj23_L4_26l (iv_c (x := (1 : Int32)) (k := 1) (by decide)) (by decide)) (by decide)
            have s50 : v50.toInt = j23_L4.toInt + 1 := by rw [e50, iv_addE hj23_L4_26l (iv_c (x := (1 : Int32)) (k := 1) (by decide)) (by decide)]; rfl
            refine lv_iinc (v := v50) (lv' := [(4, .int v50), (0, .ref a0), (1, .int x1), (2, .int j50_L2), (3, .int j50_L3), (5, .int v33)]) hx hb dX9_laws_50 hl (k := 4) rfl (by rw [e50]; rfl) (by decide) rfl (fun ls hl => ?_)
            refine lv_goto (tgt := 23) hx hb dX9_laws_53 (by decide) ?_
            exact ih23 j50_L2 j50_L3 v50 _ _ _ (ms_up hms23 (by have := s50; omega) (iv_w (c := 4) (d := 5) hv50 (by decide)).2) (iv_w hj50_L2 (by decide)) (iv_w hj50_L3 (by decide)) (iv_w hv50 (by decide)) hT hS (lv_sub hl [1, 2, 3, 4, 0] rfl)
          refine lv_icmp_ge (tgt := 50) hx hb dX9_laws_41 (by decide) (fun c41 => ?_) (fun c41 => ?_)
          · skip
            have f41 := i_le c41
            exact J50 j23_L2 j23_L3 _ _ _  (iv_w hj23_L2 (by decide)) (iv_w hj23_L3 (by decide)) hT hS (lv_sub hl [1, 2, 3, 4, 5, 0] rfl)
          · skip
            have f41 := i_nle c41
            have hv33_41l : iv v33 (-2147483648) 2147483646 := iv_ltl (iv_top v33) hj23_L3 (Int32.not_le.mp c41) (by decide)
            have hj23_L3_41r : iv j23_L3 (-2147483647) 2147483647 := iv_ltr hv33_41l hj23_L3 (Int32.not_le.mp c41) (by decide)
            refine lv_iload hx hb dX9_laws_44 (lv_at hl 0 rfl) ?_
            refine lv_istore_n (lv' := [(3, .int v33), (5, .int v33), (0, .ref a0), (1, .int x1), (2, .int j23_L2), (4, .int j23_L4)]) hx hb dX9_laws_46 rfl hl (by decide) rfl (fun ls hl => ?_)
            refine lv_iload hx hb dX9_laws_47 (lv_at hl 5 rfl) ?_
            refine lv_istore_n (lv' := [(2, .int j23_L4), (3, .int v33), (5, .int v33), (0, .ref a0), (1, .int x1), (4, .int j23_L4)]) hx hb dX9_laws_49 rfl hl (by decide) rfl (fun ls hl => ?_)
            exact J50 j23_L4 v33 _ _ _  (iv_w hj23_L4_26l (by decide)) (iv_w hv33_41l (by decide)) hT hS (lv_sub hl [3, 4, 0, 1, 5, 2] rfl)
    refine lv_istore (lv' := [(4, .int (3 : Int32)), (3, .int v16), (2, .int (2 : Int32)), (0, .ref a0), (1, .int x1)]) hx hb dX9_laws_21 hl (by decide) rfl (fun ls hl => ?_)
    exact J23 _ (2 : Int32) v16 (3 : Int32) _ _ _ (Nat.lt_succ_self _) (iv_w (iv_c (x := (2 : Int32)) (k := 2) (by decide)) (by decide)) (iv_w (iv_top v16) (by decide)) (iv_w (iv_c (x := (3 : Int32)) (k := 3) (by decide)) (by decide)) hT hS (lv_sub hl [3, 4, 2, 1, 0] rfl)
  · skip
    have kl0 : (0 : Int32).toInt = 0 := by decide
    have f5 := i_eq c5
    have hv2_5l : iv v2 0 0 := iv_eql hv2 (iv_c (x := (0 : Int32)) (k := 0) (by decide)) c5 (by decide)
    refine lv_bipush (v := (-2)) hx hb dX9_laws_8 (by decide) ?_
    exact ret _ _ _ _ _ dX9_laws_10 (⟨hT, iv_w (iv_c (x := (-2 : Int32)) (k := (-2)) (by decide)) (by decide)⟩) hS
set_option maxHeartbeats 4000000 in
set_option maxRecDepth 100000 in
theorem t_X9_leaves (l : Launch) {D : va_G} {c0 : Nat → ClassId} {Y : Nat → Option Nat} {ν : Nat → Nat} {H : Heap} (hT : TI D vwCl (tysOf c0) (RTg ν) Y H) {a0 : Nat} (ha0 : Y a0 = some 9) {x1 : Int32} (hx1 : iv x1 (-2147483648) 2147483647) {x2 : Int32} (hx2 : iv x2 (-2147483648) 2147483647) : Met l yX9_leaves (wz yX9_leaves cX9_leaves 6 (some .int)) { frames := 5, cells := 0, slots := 0, locals := 140 } (TP D vwCl (tysOf c0) H [.ref a0, .int x1, .int x2]) (TQi (fun x H' => TI D vwCl (tysOf c0) (RTg ν) Y H' ∧ iv x (-2) 3) Y [0, 1, 2, 3, 4, 7, 20, 22, 28, 29]) 0 0 (pW Y [0, 1, 2, 3, 4, 7, 20, 22, 28, 29]) := by
  refine Met.ofW (cc := cX9_leaves) (maxL := 6) (ret := (some .int)) (by decide) rfl ?_
  intro p e s m args below meth c s₁ B hml hv
  obtain ⟨rfl, rfl, hK⟩ := hv
  have hx := B.exec
  have hb := B.bytes
  have hr := B.returns
  have hts : ∀ w ∈ wq, w.before _ s = true := fun w h => atoms_spec (ws := wz yX9_leaves cX9_leaves 6 (some .int)) B.pre w (List.mem_cons_of_mem _ h)
  have hown : s.vm.findClass RX9 = some m.cls := findClass_of_methodNamed B.named
  have hlocks := B.notSynchronized
  obtain ⟨R, hR⟩ : ∃ R : Room, R = ({ frames := 5, cells := 0, slots := 0, locals := 140 } : Room) := ⟨_, rfl⟩
  rw [show (headSpec (wz yX9_leaves cX9_leaves 6 (some .int)) { frames := 5, cells := 0, slots := 0, locals := 140 }).room = R from hR.symm]
  refine ti_mi hx hb hr hlocks (fun Q ret => ?_)
  have hl := lv_entry [.ref a0, .int x1, .int x2] (n := 6) (Nat.le_of_ble_eq_true rfl)
  rw [lg_entry_eq]
  generalize (lg_sl [.ref a0, .int x1, .int x2] ++ List.replicate (6 - (lg_sl [.ref a0, .int x1, .int x2]).length) Slot.unset).toArray = ls at hl ⊢
  have hl : lv_has ls 6 [(0, .ref a0), (1, .int x1), (2, .int x2)] := hl
  refine ti_gen (P := fun H => TI D vwCl (tysOf c0) (RTg ν) Y H) (Y := Y) (ws := [0, 1, 2, 3, 4, 7, 20, 22, 28, 29]) hT (fun H locs hT hS => ?_)
  refine lv_aload_n hx hb dX9_leaves_0 rfl (lv_at hl 0 rfl) ?_
  refine lv_iload_n hx hb dX9_leaves_1 rfl (lv_at hl 1 rfl) ?_
  refine lv_iload_n hx hb dX9_leaves_2 rfl (lv_at hl 2 rfl) ?_
  refine ti_calli (va_runV (As := [.int x1, .int x2]) (rest := []) ⟨hx, hb, hml, hown, hts⟩ (t_X9_arePair l hT ha0 (iv_w hx1 (by decide)) (iv_w hx2 (by decide))) (cwV 2 hts (good_V kw_529 kw_530 kw_531 kw_2 kw_532) rfl rfl rfl (by decide +kernel) ⟨by rw [hR]; decide, by rw [hR]; decide⟩) (ti_preV hK hT ha0 rfl rfl) rfl rfl hl.1 rfl (lv_room (Nat.le_of_ble_eq_true rfl)) dX9_leaves_3 ⟨Nat.zero_le _, Nat.zero_le _⟩) hS (pW_sub rfl) (fun v3 H1 locs hB hS _ hk3 => ?_)
  obtain ⟨hH, hv3, hp3⟩ := hB
  rw [hH] at hS ⊢
  refine lv_if_ne (tgt := 12) hx hb dX9_leaves_6 (by decide) (fun c6 => ?_) (fun c6 => ?_)
  · skip
    have kl0 : (0 : Int32).toInt = 0 := by decide
    have f6 := i_ne c6
    have hv3_6l : iv v3 1 1 := iv_nel hv3 (iv_c (x := (0 : Int32)) (k := 0) (by decide)) c6 (by decide)
    have hx1_6p : iv x1 0 7 := by have b0a := (hx1).1; have b0b := (hx1).2; exact ⟨by omega, by omega⟩
    have hx2_6p : iv x2 0 7 := by have b0a := (hx2).1; have b0b := (hx2).2; exact ⟨by omega, by omega⟩
    refine lv_aload_n hx hb dX9_leaves_12 rfl (lv_at hl 0 rfl) ?_
    refine ti_callr (va_runV (As := []) (rest := []) ⟨hx, hb, hml, hown, hts⟩ (t_X9_startThought l hT ha0) (cwV 0 hts (good_V kw_802 kw_803 kw_804 kw_2 kw_805) rfl rfl rfl (by decide +kernel) ⟨by rw [hR]; decide, by rw [hR]; decide⟩) (ti_preV hK hT ha0 rfl rfl) rfl rfl hl.1 rfl (lv_room (Nat.le_of_ble_eq_true rfl)) dX9_leaves_13 ⟨Nat.zero_le _, Nat.zero_le _⟩) hS (pW_sub rfl) (fun v13 H locs hB hS _ hk13 => ?_)
    obtain ⟨hT, hv13⟩ := hB
    refine lv_astore_n (lv' := [(3, .ref v13), (0, .ref a0), (1, .int x1), (2, .int x2)]) hx hb dX9_leaves_16 rfl hl (by decide) rfl (fun ls hl => ?_)
    refine lv_aload_n hx hb dX9_leaves_17 rfl (lv_at hl 1 rfl) ?_
    refine ti_getr hx hb hts inlX9 hown hK hT ha0 rfl rfl rfl 1 (by decide) (hts _ kw_20) (fun _ h9 => h9) rfl dX9_leaves_18 (fun v18 hv18 hm18 => ?_)
    refine ti_getr hx hb hts inlX7 hown hK hT hv18 rfl rfl rfl 8 (by decide) (hts _ kw_471) (fun _ h9 => h9) rfl dX9_leaves_21 (fun v21 hv21 hm21 => ?_)
    refine lv_iload_n hx hb dX9_leaves_24 rfl (lv_at hl 2 rfl) ?_
    refine ti_aald hx hb (aT6 hK) hT hv21 rfl hx1_6p (by decide) (fun _ _ _ => rfl) dX9_leaves_25 (fun v25 hv25 => ?_)
    refine ti_geti hx hb hts inlX3 hown hK hT hv25 rfl rfl rfl 0 (by decide) (hts _ kw_472) (fun _ h9 => h9) rfl dX9_leaves_26 (fun v26 hv26 hm26 => ?_)
    refine lv_aload_n hx hb dX9_leaves_29 rfl (lv_at hl 1 rfl) ?_
    refine ti_getE (ci := 9) (v := .ref v18) hx hb hts inlX9 hown hK hm18 rfl (by decide) (hts _ kw_20) (fun _ h9 => h9) dX9_leaves_30 ?_
    refine ti_getE (ci := 7) (v := .ref v21) hx hb hts inlX7 hown hK hm21 rfl (by decide) (hts _ kw_471) (fun _ h9 => h9) dX9_leaves_33 ?_
    refine lv_iload_n hx hb dX9_leaves_36 rfl (lv_at hl 3 rfl) ?_
    refine ti_aald hx hb (aT6 hK) hT hv21 rfl hx2_6p (by decide) (fun _ _ _ => rfl) dX9_leaves_37 (fun v37 hv37 => ?_)
    refine ti_geti hx hb hts inlX3 hown hK hT hv37 rfl rfl rfl 0 (by decide) (hts _ kw_472) (fun _ h9 => h9) rfl dX9_leaves_38 (fun v38 hv38 hm38 => ?_)
    refine va_mmax hx hb (by rw [hml]; exact hl.1.symm) hown (hts _ kw_1101) (hts _ kw_618) (hts _ kw_212) (hts _ kw_619) (by rw [hR]; decide) (by rw [hR]; exact Nat.le_of_ble_eq_true rfl) (Nat.zero_le _) (Nat.zero_le _) dX9_leaves_41 ?_
    refine lv_topi (fun v41 e41 => ?_)
    have hv41 : iv v41 (-2147483648) 100000 := by rw [e41]; exact iv_max hv26 hv38 (by decide)
    refine lv_istore (lv' := [(4, .int v41), (3, .ref v13), (0, .ref a0), (1, .int x1), (2, .int x2)]) hx hb dX9_leaves_44 hl (by decide) rfl (fun ls hl => ?_)
    refine lv_aload_n hx hb dX9_leaves_46 rfl (lv_at hl 1 rfl) ?_
    refine ti_getr hx hb hts inlX7 hown hK hT hv13 rfl rfl rfl 8 (by decide) (hts _ kw_471) (fun _ h9 => h9) rfl dX9_leaves_47 (fun v47 hv47 hm47 => ?_)
    refine lv_iload_n hx hb dX9_leaves_50 rfl (lv_at hl 3 rfl) ?_
    refine ti_aald hx hb (aT6 hK) hT hv47 rfl hx1_6p (by decide) (fun _ _ _ => rfl) dX9_leaves_51 (fun v51 hv51 => ?_)
    refine lv_iload hx hb dX9_leaves_52 (lv_at hl 0 rfl) ?_
    refine ti_put (ty := .int) hx hb hts inlX3 tyX3 tyX3_ok nmX3 hown hK hT hS hv51 rfl rfl rfl rfl 0 (by decide) (hts _ kw_472) (fun _ h9 => h9) rfl rfl (by decide +kernel) rfl rfl ⟨v41, rfl, iv_w hv41 (by decide)⟩ (fun _ _ => trivial) dX9_leaves_54 (fun H locs hT hS oq54 he54 hk54 => ?_)
    refine lv_aload_n hx hb dX9_leaves_57 rfl (lv_at hl 1 rfl) ?_
    refine ti_getE (ci := 7) (v := .ref v47) hx hb hts inlX7 hown hK (hm47.kept (oq54 _ (ne_r hv13 hv51 rfl))) rfl (by decide) (hts _ kw_471) (fun _ h9 => h9) dX9_leaves_58 ?_
    refine lv_iload_n hx hb dX9_leaves_61 rfl (lv_at hl 4 rfl) ?_
    refine ti_aald hx hb (aT6 hK) hT hv47 rfl hx2_6p (by decide) (fun _ _ _ => rfl) dX9_leaves_62 (fun v62 hv62 => ?_)
    refine lv_iload hx hb dX9_leaves_63 (lv_at hl 0 rfl) ?_
    refine ti_put (ty := .int) hx hb hts inlX3 tyX3 tyX3_ok nmX3 hown hK hT hS hv62 rfl rfl rfl rfl 0 (by decide) (hts _ kw_472) (fun _ h9 => h9) rfl rfl (by decide +kernel) rfl rfl ⟨v41, rfl, iv_w hv41 (by decide)⟩ (fun _ _ => trivial) dX9_leaves_65 (fun H locs hT hS oq65 he65 hk65 => ?_)
    refine lv_aload_n hx hb dX9_leaves_68 rfl (lv_at hl 2 rfl) ?_
    refine ti_getr hx hb hts inlX9 hown hK hT ha0 rfl rfl rfl 7 (by decide) (hts _ kw_34) (fun _ h9 => h9) rfl dX9_leaves_69 (fun v69 hv69 hm69 => ?_)
    refine lv_aload_n hx hb dX9_leaves_72 rfl (lv_at hl 1 rfl) ?_
    refine lv_iload_n hx hb dX9_leaves_73 rfl (lv_at hl 3 rfl) ?_
    refine ti_calli (va_runV (As := [.ref v13, .int x1]) (rest := []) ⟨hx, hb, hml, hown, hts⟩ (t_X2_isRestless l hT hv69 hv13 (iv_w hx1_6p (by decide))) (cwV 2 hts (good_V kw_1078 kw_1079 kw_1080 kw_33 kw_1081) rfl rfl rfl (by decide +kernel) ⟨by rw [hR]; decide, by rw [hR]; decide⟩) (ti_preV hK hT hv69 rfl rfl) rfl rfl hl.1 rfl (lv_room (Nat.le_of_ble_eq_true rfl)) dX9_leaves_74 ⟨Nat.zero_le _, Nat.zero_le _⟩) hS (pW_sub rfl) (fun v74 H locs hB hS _ hk74 => ?_)
    obtain ⟨hT, hv74⟩ := hB
    have J85 : ∀ (j85_S0 : Int32) (H : Heap) (locs : List Loc) (ls : Array Slot), iv j85_S0 0 1 → TI D vwCl (tysOf c0) (RTg ν) Y H → va_S (pW Y [0, 1, 2, 3, 4, 7, 20, 22, 28, 29]) s.heap H locs → lv_has ls 6 [(0, .ref a0), (1, .int x1), (2, .int x2), (3, .ref v13), (4, .int v41)] → W p l e R s m ([.ref a0, .int x1, .int x2] : List Value).toArray below meth c H locs 0 0 Q (F0 m 85 ls [.int j85_S0]) := by
      intro j85_S0 H locs ls hj85_S0 hT hS hl
      refine lv_istore (lv' := [(5, .int j85_S0), (0, .ref a0), (1, .int x1), (2, .int x2), (3, .ref v13), (4, .int v41)]) hx hb dX9_leaves_85 hl (by decide) rfl (fun ls hl => ?_)
      refine lv_aload_n hx hb dX9_leaves_87 rfl (lv_at hl 1 rfl) ?_
      refine ti_getr hx hb hts inlX9 hown hK hT ha0 rfl rfl rfl 7 (by decide) (hts _ kw_34) (fun _ h9 => h9) rfl dX9_leaves_88 (fun v88 hv88 hm88 => ?_)
      refine lv_aload_n hx hb dX9_leaves_91 rfl (lv_at hl 4 rfl) ?_
      refine lv_iload_n hx hb dX9_leaves_92 rfl (lv_at hl 3 rfl) ?_
      refine ti_calli (va_runV (As := [.ref v13, .int x2]) (rest := []) ⟨hx, hb, hml, hown, hts⟩ (t_X2_isRestless l hT hv88 hv13 (iv_w hx2_6p (by decide))) (cwV 2 hts (good_V kw_1078 kw_1079 kw_1080 kw_33 kw_1081) rfl rfl rfl (by decide +kernel) ⟨by rw [hR]; decide, by rw [hR]; decide⟩) (ti_preV hK hT hv88 rfl rfl) rfl rfl hl.1 rfl (lv_room (Nat.le_of_ble_eq_true rfl)) dX9_leaves_93 ⟨Nat.zero_le _, Nat.zero_le _⟩) hS (pW_sub rfl) (fun v93 H locs hB hS _ hk93 => ?_)
      obtain ⟨hT, hv93⟩ := hB
      refine lv_if_eq (tgt := 106) hx hb dX9_leaves_96 (by decide) (fun c96 => ?_) (fun c96 => ?_)
      · skip
        have f96 := i_eq c96
        have hv93_96l : iv v93 0 0 := iv_eql hv93 (iv_c (x := (0 : Int32)) (k := 0) (by decide)) c96 (by decide)
        refine lv_iload hx hb dX9_leaves_106 (lv_at hl 0 rfl) ?_
        exact ret _ _ _ _ _ dX9_leaves_108 (⟨hT, iv_w hj85_S0 (by decide)⟩) hS
      · skip
        have f96 := i_ne c96
        have hv93_96l : iv v93 1 1 := iv_nel hv93 (iv_c (x := (0 : Int32)) (k := 0) (by decide)) c96 (by decide)
        refine lv_iload hx hb dX9_leaves_99 (lv_at hl 0 rfl) ?_
        refine lv_iconst (v := 2) hx hb dX9_leaves_101 (by decide) ?_
        refine lv_iadd hx hb dX9_leaves_102 ?_
        refine lv_topi (fun v102 e102 => ?_)
        have hv102 : iv v102 2 3 := by rw [e102]; exact iv_w (iv_add hj85_S0 (iv_c (x := (2 : Int32)) (k := 2) (by decide)) (by decide)) (by decide)
        have s102 : v102.toInt = j85_S0.toInt + 2 := by rw [e102, iv_addE hj85_S0 (iv_c (x := (2 : Int32)) (k := 2) (by decide)) (by decide)]; rfl
        have kl2 : (2 : Int32).toInt = 2 := by decide
        refine lv_goto (tgt := 108) hx hb dX9_leaves_103 (by decide) ?_
        exact ret _ _ _ _ _ dX9_leaves_108 (⟨hT, iv_w hv102 (by decide)⟩) hS
    refine lv_if_eq (tgt := 84) hx hb dX9_leaves_77 (by decide) (fun c77 => ?_) (fun c77 => ?_)
    · skip
      have f77 := i_eq c77
      have hv74_77l : iv v74 0 0 := iv_eql hv74 (iv_c (x := (0 : Int32)) (k := 0) (by decide)) c77 (by decide)
      refine lv_iconst (v := 0) hx hb dX9_leaves_84 (by decide) ?_
      exact J85 (0 : Int32) _ _ _  (iv_w (iv_c (x := (0 : Int32)) (k := 0) (by decide)) (by decide)) hT hS (lv_sub hl [2, 3, 4, 1, 0] rfl)
    · skip
      have f77 := i_ne c77
      have hv74_77l : iv v74 1 1 := iv_nel hv74 (iv_c (x := (0 : Int32)) (k := 0) (by decide)) c77 (by decide)
      refine lv_iconst (v := 1) hx hb dX9_leaves_80 (by decide) ?_
      refine lv_goto (tgt := 85) hx hb dX9_leaves_81 (by decide) ?_
      exact J85 (1 : Int32) _ _ _  (iv_w (iv_c (x := (1 : Int32)) (k := 1) (by decide)) (by decide)) hT hS (lv_sub hl [2, 3, 4, 1, 0] rfl)
  · skip
    have kl0 : (0 : Int32).toInt = 0 := by decide
    have f6 := i_eq c6
    have hv3_6l : iv v3 0 0 := iv_eql hv3 (iv_c (x := (0 : Int32)) (k := 0) (by decide)) c6 (by decide)
    refine lv_bipush (v := (-2)) hx hb dX9_leaves_9 (by decide) ?_
    exact ret _ _ _ _ _ dX9_leaves_11 (⟨hT, iv_w (iv_c (x := (-2 : Int32)) (k := (-2)) (by decide)) (by decide)⟩) hS
set_option maxHeartbeats 4000000 in
set_option maxRecDepth 100000 in
theorem t_X9_leastBreaking (l : Launch) {D : va_G} {c0 : Nat → ClassId} {Y : Nat → Option Nat} {ν : Nat → Nat} {H : Heap} (hT : TI D vwCl (tysOf c0) (RTg ν) Y H) {a0 : Nat} (ha0 : Y a0 = some 9) {x1 : Int32} (hx1 : iv x1 0 7) {x2 : Int32} (hx2 : iv x2 0 7) : Met l yX9_leastBreaking (wz yX9_leastBreaking cX9_leastBreaking 4 (some .int)) { frames := 4, cells := 0, slots := 0, locals := 128 } (TP D vwCl (tysOf c0) H [.ref a0, .int x1, .int x2]) (TQi (fun x H' => TI D vwCl (tysOf c0) (RTg ν) Y H' ∧ iv x (-1) 100000) Y [4, 29]) 0 0 (pW Y [4, 29]) := by
  refine Met.ofW (cc := cX9_leastBreaking) (maxL := 4) (ret := (some .int)) (by decide) rfl ?_
  intro p e s m args below meth c s₁ B hml hv
  obtain ⟨rfl, rfl, hK⟩ := hv
  have hx := B.exec
  have hb := B.bytes
  have hr := B.returns
  have hts : ∀ w ∈ wq, w.before _ s = true := fun w h => atoms_spec (ws := wz yX9_leastBreaking cX9_leastBreaking 4 (some .int)) B.pre w (List.mem_cons_of_mem _ h)
  have hown : s.vm.findClass RX9 = some m.cls := findClass_of_methodNamed B.named
  have hlocks := B.notSynchronized
  obtain ⟨R, hR⟩ : ∃ R : Room, R = ({ frames := 4, cells := 0, slots := 0, locals := 128 } : Room) := ⟨_, rfl⟩
  rw [show (headSpec (wz yX9_leastBreaking cX9_leastBreaking 4 (some .int)) { frames := 4, cells := 0, slots := 0, locals := 128 }).room = R from hR.symm]
  refine ti_mi hx hb hr hlocks (fun Q ret => ?_)
  have hl := lv_entry [.ref a0, .int x1, .int x2] (n := 4) (Nat.le_of_ble_eq_true rfl)
  rw [lg_entry_eq]
  generalize (lg_sl [.ref a0, .int x1, .int x2] ++ List.replicate (4 - (lg_sl [.ref a0, .int x1, .int x2]).length) Slot.unset).toArray = ls at hl ⊢
  have hl : lv_has ls 4 [(0, .ref a0), (1, .int x1), (2, .int x2)] := hl
  refine ti_gen (P := fun H => TI D vwCl (tysOf c0) (RTg ν) Y H) (Y := Y) (ws := [4, 29]) hT (fun H locs hT hS => ?_)
  refine lv_iconst (v := 0) hx hb dX9_leastBreaking_0 (by decide) ?_
  have J2 : ∀ (n : Nat) (j2_L3 : Int32) (H : Heap) (locs : List Loc) (ls : Array Slot), (100001 - j2_L3.toInt).toNat < n → iv j2_L3 0 100001 → TI D vwCl (tysOf c0) (RTg ν) Y H → va_S (pW Y [4, 29]) s.heap H locs → lv_has ls 4 [(0, .ref a0), (1, .int x1), (2, .int x2), (3, .int j2_L3)] → W p l e R s m ([.ref a0, .int x1, .int x2] : List Value).toArray below meth c H locs 0 0 Q (F0 m 2 ls []) := by
    intro n
    induction n with
    | zero => intro j2_L3 H locs ls hms; exact absurd hms (Nat.not_lt_zero _)
    | succ n ih2 =>
      intro j2_L3 H locs ls hms2 hj2_L3 hT hS hl
      refine lv_iload_n hx hb dX9_leastBreaking_2 rfl (lv_at hl 3 rfl) ?_
      refine lv_aload_n hx hb dX9_leastBreaking_3 rfl (lv_at hl 0 rfl) ?_
      refine ti_getr hx hb hts inlX9 hown hK hT ha0 rfl rfl rfl 1 (by decide) (hts _ kw_20) (fun _ h9 => h9) rfl dX9_leastBreaking_4 (fun v4 hv4 hm4 => ?_)
      refine ti_getr hx hb hts inlX7 hown hK hT hv4 rfl rfl rfl 8 (by decide) (hts _ kw_471) (fun _ h9 => h9) rfl dX9_leastBreaking_7 (fun v7 hv7 hm7 => ?_)
      refine lv_iload_n hx hb dX9_leastBreaking_10 rfl (lv_at hl 1 rfl) ?_
      refine ti_aald hx hb (aT6 hK) hT hv7 rfl hx1 (by decide) (fun _ _ _ => rfl) dX9_leastBreaking_11 (fun v11 hv11 => ?_)
      refine ti_geti hx hb hts inlX3 hown hK hT hv11 rfl rfl rfl 0 (by decide) (hts _ kw_472) (fun _ h9 => h9) rfl dX9_leastBreaking_12 (fun v12 hv12 hm12 => ?_)
      refine lv_icmp_gt (tgt := 44) hx hb dX9_leastBreaking_15 (by decide) (fun c15 => ?_) (fun c15 => ?_)
      · skip
        have f15 := i_lt c15
        refine lv_iconst (v := (-1)) hx hb dX9_leastBreaking_44 (by decide) ?_
        exact ret _ _ _ _ _ dX9_leastBreaking_45 (⟨hT, iv_w (iv_c (x := (-1 : Int32)) (k := (-1)) (by decide)) (by decide)⟩) hS
      · skip
        have f15 := i_nlt c15
        have hj2_L3_15l : iv j2_L3 0 100000 := iv_lel hj2_L3 hv12 (Int32.not_lt.mp c15) (by decide)
        have hv12_15r : iv v12 0 100000 := iv_ler hj2_L3_15l hv12 (Int32.not_lt.mp c15) (by decide)
        refine lv_aload_n hx hb dX9_leastBreaking_18 rfl (lv_at hl 0 rfl) ?_
        refine lv_iload_n hx hb dX9_leastBreaking_19 rfl (lv_at hl 1 rfl) ?_
        refine lv_iload_n hx hb dX9_leastBreaking_20 rfl (lv_at hl 2 rfl) ?_
        refine lv_iload_n hx hb dX9_leastBreaking_21 rfl (lv_at hl 3 rfl) ?_
        refine ti_callv (va_runV (As := [.int x1, .int x2, .int j2_L3]) (rest := []) ⟨hx, hb, hml, hown, hts⟩ (t_X9_lookAfterHanding l hT ha0 (iv_w hx1 (by decide)) (iv_w hx2 (by decide)) (iv_w hj2_L3_15l (by decide))) (cwV 3 hts (good_V kw_1036 kw_1037 kw_1038 kw_2 kw_1039) rfl rfl rfl (by decide +kernel) ⟨by rw [hR]; decide, by rw [hR]; decide⟩) (ti_preV hK hT ha0 rfl rfl) rfl rfl hl.1 rfl (lv_room (Nat.le_of_ble_eq_true rfl)) dX9_leastBreaking_22 ⟨Nat.zero_le _, Nat.zero_le _⟩) hS (pW_sub rfl) (fun H locs hB hS _ hk22 => ?_)
        have hT := hB
        refine lv_aload_n hx hb dX9_leastBreaking_25 rfl (lv_at hl 0 rfl) ?_
        refine ti_getr hx hb hts inlX9 hown hK hT ha0 rfl rfl rfl 6 (by decide) (hts _ kw_30) (fun _ h9 => h9) rfl dX9_leastBreaking_26 (fun v26 hv26 hm26 => ?_)
        refine lv_iload_n hx hb dX9_leastBreaking_29 rfl (lv_at hl 2 rfl) ?_
        refine ti_calli (va_runV (As := [.int x2]) (rest := []) ⟨hx, hb, hml, hown, hts⟩ (t_X4_lossOf l hT hv26 (iv_w hx2 (by decide))) (cwV 1 hts (good_V kw_637 kw_638 kw_639 kw_29 kw_640) rfl rfl rfl (by decide +kernel) ⟨by rw [hR]; decide, by rw [hR]; decide⟩) (ti_preV hK hT hv26 rfl rfl) rfl rfl hl.1 rfl (lv_room (Nat.le_of_ble_eq_true rfl)) dX9_leastBreaking_30 ⟨Nat.zero_le _, Nat.zero_le _⟩) hS (pW_sub rfl) (fun v30 H1 locs hB hS _ hk30 => ?_)
        have hH := hB
        rw [hH] at hS ⊢
        refine lv_if_le (tgt := 38) hx hb dX9_leastBreaking_33 (by decide) (fun c33 => ?_) (fun c33 => ?_)
        · skip
          have kl0 : (0 : Int32).toInt = 0 := by decide
          have f33 := i_le c33
          have hv30_33l : iv v30 (-2147483648) 0 := iv_lel (iv_top v30) (iv_c (x := (0 : Int32)) (k := 0) (by decide)) c33 (by decide)
          obtain ⟨v38, e38⟩ : ∃ y : Int32, y = j2_L3 + 1 := ⟨_, rfl⟩
          have hv38 : iv v38 1 100001 := by rw [e38]; exact iv_w (iv_add hj2_L3_15l (iv_c (x := (1 : Int32)) (k := 1) (by decide)) (by decide)) (by decide)
          have s38 : v38.toInt = j2_L3.toInt + 1 := by rw [e38, iv_addE hj2_L3_15l (iv_c (x := (1 : Int32)) (k := 1) (by decide)) (by decide)]; rfl
          refine lv_iinc (v := v38) (lv' := [(3, .int v38), (0, .ref a0), (1, .int x1), (2, .int x2)]) hx hb dX9_leastBreaking_38 hl (k := 3) rfl (by rw [e38]; rfl) (by decide) rfl (fun ls hl => ?_)
          refine lv_goto (tgt := 2) hx hb dX9_leastBreaking_41 (by decide) ?_
          exact ih2 v38 _ _ _ (ms_up hms2 (by have := s38; omega) (iv_w (c := 1) (d := 100001) hv38 (by decide)).2) (iv_w hv38 (by decide)) hT hS (lv_sub hl [1, 2, 3, 0] rfl)
        · skip
          have kl0 : (0 : Int32).toInt = 0 := by decide
          have f33 := i_nle c33
          have hv30_33r : iv v30 1 2147483647 := iv_ltr (iv_c (x := (0 : Int32)) (k := 0) (by decide)) (iv_top v30) (Int32.not_le.mp c33) (by decide)
          refine lv_iload_n hx hb dX9_leastBreaking_36 rfl (lv_at hl 3 rfl) ?_
          exact ret _ _ _ _ _ dX9_leastBreaking_37 (⟨hT, iv_w hj2_L3_15l (by decide)⟩) hS
  refine lv_istore_n (lv' := [(3, .int (0 : Int32)), (0, .ref a0), (1, .int x1), (2, .int x2)]) hx hb dX9_leastBreaking_1 rfl hl (by decide) rfl (fun ls hl => ?_)
  exact J2 _ (0 : Int32) _ _ _ (Nat.lt_succ_self _) (iv_w (iv_c (x := (0 : Int32)) (k := 0) (by decide)) (by decide)) hT hS (lv_sub hl [1, 2, 3, 0] rfl)
set_option maxHeartbeats 4000000 in
set_option maxRecDepth 100000 in
theorem t_X9_breaks (l : Launch) {D : va_G} {c0 : Nat → ClassId} {Y : Nat → Option Nat} {ν : Nat → Nat} {H : Heap} (hT : TI D vwCl (tysOf c0) (RTg ν) Y H) {a0 : Nat} (ha0 : Y a0 = some 9) {x1 : Int32} (hx1 : iv x1 (-2147483648) 2147483647) {x2 : Int32} (hx2 : iv x2 (-2147483648) 2147483647) : Met l yX9_breaks (wz yX9_breaks cX9_breaks 3 (some .int)) { frames := 5, cells := 0, slots := 0, locals := 151 } (TP D vwCl (tysOf c0) H [.ref a0, .int x1, .int x2]) (TQi (fun x H' => TI D vwCl (tysOf c0) (RTg ν) Y H' ∧ iv x (-2) 100000) Y [4, 29]) 0 0 (pW Y [4, 29]) := by
  refine Met.ofW (cc := cX9_breaks) (maxL := 3) (ret := (some .int)) (by decide) rfl ?_
  intro p e s m args below meth c s₁ B hml hv
  obtain ⟨rfl, rfl, hK⟩ := hv
  have hx := B.exec
  have hb := B.bytes
  have hr := B.returns
  have hts : ∀ w ∈ wq, w.before _ s = true := fun w h => atoms_spec (ws := wz yX9_breaks cX9_breaks 3 (some .int)) B.pre w (List.mem_cons_of_mem _ h)
  have hown : s.vm.findClass RX9 = some m.cls := findClass_of_methodNamed B.named
  have hlocks := B.notSynchronized
  obtain ⟨R, hR⟩ : ∃ R : Room, R = ({ frames := 5, cells := 0, slots := 0, locals := 151 } : Room) := ⟨_, rfl⟩
  rw [show (headSpec (wz yX9_breaks cX9_breaks 3 (some .int)) { frames := 5, cells := 0, slots := 0, locals := 151 }).room = R from hR.symm]
  refine ti_mi hx hb hr hlocks (fun Q ret => ?_)
  have hl := lv_entry [.ref a0, .int x1, .int x2] (n := 3) (Nat.le_of_ble_eq_true rfl)
  rw [lg_entry_eq]
  generalize (lg_sl [.ref a0, .int x1, .int x2] ++ List.replicate (3 - (lg_sl [.ref a0, .int x1, .int x2]).length) Slot.unset).toArray = ls at hl ⊢
  have hl : lv_has ls 3 [(0, .ref a0), (1, .int x1), (2, .int x2)] := hl
  refine ti_gen (P := fun H => TI D vwCl (tysOf c0) (RTg ν) Y H) (Y := Y) (ws := [4, 29]) hT (fun H locs hT hS => ?_)
  refine lv_aload_n hx hb dX9_breaks_0 rfl (lv_at hl 0 rfl) ?_
  refine lv_iload_n hx hb dX9_breaks_1 rfl (lv_at hl 1 rfl) ?_
  refine lv_iload_n hx hb dX9_breaks_2 rfl (lv_at hl 2 rfl) ?_
  refine ti_calli (va_runV (As := [.int x1, .int x2]) (rest := []) ⟨hx, hb, hml, hown, hts⟩ (t_X9_arePair l hT ha0 (iv_w hx1 (by decide)) (iv_w hx2 (by decide))) (cwV 2 hts (good_V kw_529 kw_530 kw_531 kw_2 kw_532) rfl rfl rfl (by decide +kernel) ⟨by rw [hR]; decide, by rw [hR]; decide⟩) (ti_preV hK hT ha0 rfl rfl) rfl rfl hl.1 rfl (lv_room (Nat.le_of_ble_eq_true rfl)) dX9_breaks_3 ⟨Nat.zero_le _, Nat.zero_le _⟩) hS (pW_sub rfl) (fun v3 H1 locs hB hS _ hk3 => ?_)
  obtain ⟨hH, hv3, hp3⟩ := hB
  rw [hH] at hS ⊢
  refine lv_if_eq (tgt := 18) hx hb dX9_breaks_6 (by decide) (fun c6 => ?_) (fun c6 => ?_)
  · skip
    have kl0 : (0 : Int32).toInt = 0 := by decide
    have f6 := i_eq c6
    have hv3_6l : iv v3 0 0 := iv_eql hv3 (iv_c (x := (0 : Int32)) (k := 0) (by decide)) c6 (by decide)
    refine lv_bipush (v := (-2)) hx hb dX9_breaks_18 (by decide) ?_
    exact ret _ _ _ _ _ dX9_breaks_20 (⟨hT, iv_w (iv_c (x := (-2 : Int32)) (k := (-2)) (by decide)) (by decide)⟩) hS
  · skip
    have kl0 : (0 : Int32).toInt = 0 := by decide
    have f6 := i_ne c6
    have hv3_6l : iv v3 1 1 := iv_nel hv3 (iv_c (x := (0 : Int32)) (k := 0) (by decide)) c6 (by decide)
    have hx1_6p : iv x1 0 7 := by have b0a := (hx1).1; have b0b := (hx1).2; exact ⟨by omega, by omega⟩
    have hx2_6p : iv x2 0 7 := by have b0a := (hx2).1; have b0b := (hx2).2; exact ⟨by omega, by omega⟩
    refine lv_aload_n hx hb dX9_breaks_9 rfl (lv_at hl 0 rfl) ?_
    refine lv_iload_n hx hb dX9_breaks_10 rfl (lv_at hl 1 rfl) ?_
    refine lv_iload_n hx hb dX9_breaks_11 rfl (lv_at hl 2 rfl) ?_
    refine ti_calli (va_runV (As := [.int x1, .int x2]) (rest := []) ⟨hx, hb, hml, hown, hts⟩ (t_X9_leastBreaking l hT ha0 (iv_w hx1_6p (by decide)) (iv_w hx2_6p (by decide))) (cwV 2 hts (good_V kw_1243 kw_1244 kw_1245 kw_2 kw_1246) rfl rfl rfl (by decide +kernel) ⟨by rw [hR]; decide, by rw [hR]; decide⟩) (ti_preV hK hT ha0 rfl rfl) rfl rfl hl.1 rfl (lv_room (Nat.le_of_ble_eq_true rfl)) dX9_breaks_12 ⟨Nat.zero_le _, Nat.zero_le _⟩) hS (pW_sub rfl) (fun v12 H locs hB hS _ hk12 => ?_)
    obtain ⟨hT, hv12⟩ := hB
    refine lv_goto (tgt := 20) hx hb dX9_breaks_15 (by decide) ?_
    exact ret _ _ _ _ _ dX9_breaks_20 (⟨hT, iv_w hv12 (by decide)⟩) hS
set_option maxHeartbeats 4000000 in
set_option maxRecDepth 100000 in
theorem t_X9_third (l : Launch) {D : va_G} {c0 : Nat → ClassId} {Y : Nat → Option Nat} {ν : Nat → Nat} {H : Heap} (hT : TI D vwCl (tysOf c0) (RTg ν) Y H) {a0 : Nat} (ha0 : Y a0 = some 9) {x1 : Int32} (hx1 : iv x1 (-2147483648) 2147483647) : Met l yX9_third (wz yX9_third cX9_third 5 (some .int)) { frames := 5, cells := 0, slots := 0, locals := 151 } (TP D vwCl (tysOf c0) H [.ref a0, .int x1]) (TQi (fun x H' => TI D vwCl (tysOf c0) (RTg ν) Y H' ∧ iv x (-2) 100000) Y [4, 29]) 0 0 (pW Y [4, 29]) := by
  refine Met.ofW (cc := cX9_third) (maxL := 5) (ret := (some .int)) (by decide) rfl ?_
  intro p e s m args below meth c s₁ B hml hv
  obtain ⟨rfl, rfl, hK⟩ := hv
  have hx := B.exec
  have hb := B.bytes
  have hr := B.returns
  have hts : ∀ w ∈ wq, w.before _ s = true := fun w h => atoms_spec (ws := wz yX9_third cX9_third 5 (some .int)) B.pre w (List.mem_cons_of_mem _ h)
  have hown : s.vm.findClass RX9 = some m.cls := findClass_of_methodNamed B.named
  have hlocks := B.notSynchronized
  obtain ⟨R, hR⟩ : ∃ R : Room, R = ({ frames := 5, cells := 0, slots := 0, locals := 151 } : Room) := ⟨_, rfl⟩
  rw [show (headSpec (wz yX9_third cX9_third 5 (some .int)) { frames := 5, cells := 0, slots := 0, locals := 151 }).room = R from hR.symm]
  refine ti_mi hx hb hr hlocks (fun Q ret => ?_)
  have hl := lv_entry [.ref a0, .int x1] (n := 5) (Nat.le_of_ble_eq_true rfl)
  rw [lg_entry_eq]
  generalize (lg_sl [.ref a0, .int x1] ++ List.replicate (5 - (lg_sl [.ref a0, .int x1]).length) Slot.unset).toArray = ls at hl ⊢
  have hl : lv_has ls 5 [(0, .ref a0), (1, .int x1)] := hl
  refine ti_gen (P := fun H => TI D vwCl (tysOf c0) (RTg ν) Y H) (Y := Y) (ws := [4, 29]) hT (fun H locs hT hS => ?_)
  refine lv_aload_n hx hb dX9_third_0 rfl (lv_at hl 0 rfl) ?_
  refine lv_iload_n hx hb dX9_third_1 rfl (lv_at hl 1 rfl) ?_
  refine lv_i2l hx hb dX9_third_2 rfl ?_
  refine lv_topl (fun v2 e2 => ?_)
  have hv2 : jv v2 (-2147483648) 2147483647 := by rw [e2]; exact jv_i hx1
  have t2 : v2.toInt = x1.toInt := by rw [e2]; exact jv_e _
  refine ti_calli (va_runV (As := [.long v2]) (rest := []) ⟨hx, hb, hml, hown, hts⟩ (t_X9_isPerson l hT ha0 (jv_w hv2 (by decide))) (cwV 1 hts (good_V kw_476 kw_477 kw_478 kw_2 kw_479) rfl rfl rfl (by decide +kernel) ⟨by rw [hR]; decide, by rw [hR]; decide⟩) (ti_preV hK hT ha0 rfl rfl) rfl rfl hl.1 rfl (lv_room (Nat.le_of_ble_eq_true rfl)) dX9_third_3 ⟨Nat.zero_le _, Nat.zero_le _⟩) hS (pW_sub rfl) (fun v3 H1 locs hB hS _ hk3 => ?_)
  obtain ⟨hH, hv3, hp3⟩ := hB
  rw [hH] at hS ⊢
  refine lv_if_ne (tgt := 12) hx hb dX9_third_6 (by decide) (fun c6 => ?_) (fun c6 => ?_)
  · skip
    have kl0 : (0 : Int32).toInt = 0 := by decide
    have f6 := i_ne c6
    have hv3_6l : iv v3 1 1 := iv_nel hv3 (iv_c (x := (0 : Int32)) (k := 0) (by decide)) c6 (by decide)
    have hv2_6p : jv v2 0 7 := by have b0a := (hv2).1; have b0b := (hv2).2; exact ⟨by omega, by omega⟩
    have hx1_6p : iv x1 0 7 := by have := t2; have b0a := (hv2_6p).1; have b0b := (hv2_6p).2; have b1a := (hx1).1; have b1b := (hx1).2; exact ⟨by omega, by omega⟩
    refine lv_iconst (v := (-1)) hx hb dX9_third_12 (by decide) ?_
    refine lv_istore_n (lv' := [(2, .int (-1 : Int32)), (0, .ref a0), (1, .int x1)]) hx hb dX9_third_13 rfl hl (by decide) rfl (fun ls hl => ?_)
    refine lv_iconst (v := 0) hx hb dX9_third_14 (by decide) ?_
    have J16 : ∀ (n : Nat) (j16_L2 : Int32) (j16_L3 : Int32) (H : Heap) (locs : List Loc) (ls : Array Slot), (8 - j16_L3.toInt).toNat < n → iv j16_L2 (-1) 100000 → iv j16_L3 0 8 → TI D vwCl (tysOf c0) (RTg ν) Y H → va_S (pW Y [4, 29]) s.heap H locs → lv_has ls 5 [(0, .ref a0), (1, .int x1), (2, .int j16_L2), (3, .int j16_L3)] → W p l e R s m ([.ref a0, .int x1] : List Value).toArray below meth c H locs 0 0 Q (F0 m 16 ls []) := by
      intro n
      induction n with
      | zero => intro j16_L2 j16_L3 H locs ls hms; exact absurd hms (Nat.not_lt_zero _)
      | succ n ih16 =>
        intro j16_L2 j16_L3 H locs ls hms16 hj16_L2 hj16_L3 hT hS hl
        refine lv_iload_n hx hb dX9_third_16 rfl (lv_at hl 3 rfl) ?_
        refine lv_aload_n hx hb dX9_third_17 rfl (lv_at hl 0 rfl) ?_
        refine ti_getr hx hb hts inlX9 hown hK hT ha0 rfl rfl rfl 1 (by decide) (hts _ kw_20) (fun _ h9 => h9) rfl dX9_third_18 (fun v18 hv18 hm18 => ?_)
        refine ti_geti hx hb hts inlX7 hown hK hT hv18 rfl rfl rfl 1 (by decide) (hts _ kw_480) (fun _ h9 => h9) rfl dX9_third_21 (fun v21 hv21 hm21 => ?_)
        refine lv_icmp_ge (tgt := 70) hx hb dX9_third_24 (by decide) (fun c24 => ?_) (fun c24 => ?_)
        · skip
          have f24 := i_le c24
          refine lv_iload_n hx hb dX9_third_70 rfl (lv_at hl 2 rfl) ?_
          exact ret _ _ _ _ _ dX9_third_71 (⟨hT, iv_w hj16_L2 (by decide)⟩) hS
        · skip
          have f24 := i_nle c24
          have hj16_L3_24l : iv j16_L3 0 7 := iv_ltl hj16_L3 hv21 (Int32.not_le.mp c24) (by decide)
          have hv21_24r : iv v21 1 8 := iv_ltr hj16_L3_24l hv21 (Int32.not_le.mp c24) (by decide)
          refine lv_iload_n hx hb dX9_third_27 rfl (lv_at hl 3 rfl) ?_
          refine lv_iload_n hx hb dX9_third_28 rfl (lv_at hl 1 rfl) ?_
          have J42 : ∀ (j42_S0 : Int32) (H : Heap) (locs : List Loc) (ls : Array Slot), iv j42_S0 (-1) 100000 → TI D vwCl (tysOf c0) (RTg ν) Y H → va_S (pW Y [4, 29]) s.heap H locs → lv_has ls 5 [(0, .ref a0), (1, .int x1), (2, .int j16_L2), (3, .int j16_L3)] → W p l e R s m ([.ref a0, .int x1] : List Value).toArray below meth c H locs 0 0 Q (F0 m 42 ls [.int j42_S0]) := by
            intro j42_S0 H locs ls hj42_S0 hT hS hl
            refine lv_istore (lv' := [(4, .int j42_S0), (0, .ref a0), (1, .int x1), (2, .int j16_L2), (3, .int j16_L3)]) hx hb dX9_third_42 hl (by decide) rfl (fun ls hl => ?_)
            refine lv_iload hx hb dX9_third_44 (lv_at hl 0 rfl) ?_
            refine lv_iconst (v := (-1)) hx hb dX9_third_46 (by decide) ?_
            have J64 : ∀ (j64_L2 : Int32) (H : Heap) (locs : List Loc) (ls : Array Slot), iv j64_L2 (-1) 100000 → TI D vwCl (tysOf c0) (RTg ν) Y H → va_S (pW Y [4, 29]) s.heap H locs → lv_has ls 5 [(0, .ref a0), (1, .int x1), (2, .int j64_L2), (3, .int j16_L3), (4, .int j42_S0)] → W p l e R s m ([.ref a0, .int x1] : List Value).toArray below meth c H locs 0 0 Q (F0 m 64 ls []) := by
              intro j64_L2 H locs ls hj64_L2 hT hS hl
              obtain ⟨v64, e64⟩ : ∃ y : Int32, y = j16_L3 + 1 := ⟨_, rfl⟩
              have hv64 : iv v64 1 8 := by rw [e64]; exact iv_w (iv_add hj16_L3_24l (iv_c (x := (1 : Int32)) (k := 1) (by decide)) (by decide)) (by decide)
              have s64 : v64.toInt = j16_L3.toInt + 1 := by rw [e64, iv_addE hj16_L3_24l (iv_c (x := (1 : Int32)) (k := 1) (by decide)) (by decide)]; rfl
              refine lv_iinc (v := v64) (lv' := [(3, .int v64), (0, .ref a0), (1, .int x1), (2, .int j64_L2), (4, .int j42_S0)]) hx hb dX9_third_64 hl (k := 3) rfl (by rw [e64]; rfl) (by decide) rfl (fun ls hl => ?_)
              refine lv_goto (tgt := 16) hx hb dX9_third_67 (by decide) ?_
              exact ih16 j64_L2 v64 _ _ _ (ms_up hms16 (by have := s64; omega) (iv_w (c := 1) (d := 8) hv64 (by decide)).2) (iv_w hj64_L2 (by decide)) (iv_w hv64 (by decide)) hT hS (lv_sub hl [1, 2, 3, 0] rfl)
            refine lv_icmp_eq (tgt := 64) hx hb dX9_third_47 (by decide) (fun c47 => ?_) (fun c47 => ?_)
            · skip
              have klm1 : (-1 : Int32).toInt = (-1) := by decide
              have f47 := i_eq c47
              have hj42_S0_47l : iv j42_S0 (-1) (-1) := iv_eql hj42_S0 (iv_c (x := (-1 : Int32)) (k := (-1)) (by decide)) c47 (by decide)
              exact J64 j16_L2 _ _ _  (iv_w hj16_L2 (by decide)) hT hS (lv_sub hl [1, 2, 3, 4, 0] rfl)
            · skip
              have klm1 : (-1 : Int32).toInt = (-1) := by decide
              have f47 := i_ne c47
              have hj42_S0_47l : iv j42_S0 0 100000 := iv_nel hj42_S0 (iv_c (x := (-1 : Int32)) (k := (-1)) (by decide)) c47 (by decide)
              refine lv_iload_n hx hb dX9_third_50 rfl (lv_at hl 3 rfl) ?_
              refine lv_iconst (v := (-1)) hx hb dX9_third_51 (by decide) ?_
              have J61 : ∀  (H : Heap) (locs : List Loc) (ls : Array Slot), TI D vwCl (tysOf c0) (RTg ν) Y H → va_S (pW Y [4, 29]) s.heap H locs → lv_has ls 5 [(0, .ref a0), (1, .int x1), (2, .int j16_L2), (3, .int j16_L3), (4, .int j42_S0)] → W p l e R s m ([.ref a0, .int x1] : List Value).toArray below meth c H locs 0 0 Q (F0 m 61 ls []) := by
                intro  H locs ls  hT hS hl
                refine lv_iload hx hb dX9_third_61 (lv_at hl 4 rfl) ?_
                refine lv_istore_n (lv' := [(2, .int j42_S0), (0, .ref a0), (1, .int x1), (3, .int j16_L3), (4, .int j42_S0)]) hx hb dX9_third_63 rfl hl (by decide) rfl (fun ls hl => ?_)
                exact J64 j42_S0 _ _ _  (iv_w hj42_S0_47l (by decide)) hT hS (lv_sub hl [1, 2, 0, 3, 4] rfl)
              refine lv_icmp_eq (tgt := 61) hx hb dX9_third_52 (by decide) (fun c52 => ?_) (fun c52 => ?_)
              · skip
                have f52 := i_eq c52
                have hj16_L2_52l : iv j16_L2 (-1) (-1) := iv_eql hj16_L2 (iv_c (x := (-1 : Int32)) (k := (-1)) (by decide)) c52 (by decide)
                exact J61  _ _ _   hT hS (lv_sub hl [1, 2, 3, 4, 0] rfl)
              · skip
                have f52 := i_ne c52
                have hj16_L2_52l : iv j16_L2 0 100000 := iv_nel hj16_L2 (iv_c (x := (-1 : Int32)) (k := (-1)) (by decide)) c52 (by decide)
                refine lv_iload hx hb dX9_third_55 (lv_at hl 0 rfl) ?_
                refine lv_iload_n hx hb dX9_third_57 rfl (lv_at hl 3 rfl) ?_
                refine lv_icmp_ge (tgt := 64) hx hb dX9_third_58 (by decide) (fun c58 => ?_) (fun c58 => ?_)
                · skip
                  have f58 := i_le c58
                  exact J64 j16_L2 _ _ _  (iv_w hj16_L2_52l (by decide)) hT hS (lv_sub hl [1, 2, 3, 4, 0] rfl)
                · skip
                  have f58 := i_nle c58
                  have hj42_S0_58l : iv j42_S0 0 99999 := iv_ltl hj42_S0_47l hj16_L2_52l (Int32.not_le.mp c58) (by decide)
                  have hj16_L2_58r : iv j16_L2 1 100000 := iv_ltr hj42_S0_58l hj16_L2_52l (Int32.not_le.mp c58) (by decide)
                  exact J61  _ _ _   hT hS (lv_sub hl [1, 2, 3, 4, 0] rfl)
          refine lv_icmp_ne (tgt := 36) hx hb dX9_third_29 (by decide) (fun c29 => ?_) (fun c29 => ?_)
          · skip
            have f29 := i_ne c29
            refine lv_aload_n hx hb dX9_third_36 rfl (lv_at hl 0 rfl) ?_
            refine lv_iload_n hx hb dX9_third_37 rfl (lv_at hl 1 rfl) ?_
            refine lv_iload_n hx hb dX9_third_38 rfl (lv_at hl 3 rfl) ?_
            refine ti_calli (va_runV (As := [.int x1, .int j16_L3]) (rest := []) ⟨hx, hb, hml, hown, hts⟩ (t_X9_leastBreaking l hT ha0 (iv_w hx1_6p (by decide)) (iv_w hj16_L3_24l (by decide))) (cwV 2 hts (good_V kw_1243 kw_1244 kw_1245 kw_2 kw_1246) rfl rfl rfl (by decide +kernel) ⟨by rw [hR]; decide, by rw [hR]; decide⟩) (ti_preV hK hT ha0 rfl rfl) rfl rfl hl.1 rfl (lv_room (Nat.le_of_ble_eq_true rfl)) dX9_third_39 ⟨Nat.zero_le _, Nat.zero_le _⟩) hS (pW_sub rfl) (fun v39 H locs hB hS _ hk39 => ?_)
            obtain ⟨hT, hv39⟩ := hB
            exact J42 v39 _ _ _  (iv_w hv39 (by decide)) hT hS (lv_sub hl [0, 1, 2, 3] rfl)
          · skip
            have f29 := i_eq c29
            refine lv_iconst (v := (-1)) hx hb dX9_third_32 (by decide) ?_
            refine lv_goto (tgt := 42) hx hb dX9_third_33 (by decide) ?_
            exact J42 (-1 : Int32) _ _ _  (iv_w (iv_c (x := (-1 : Int32)) (k := (-1)) (by decide)) (by decide)) hT hS (lv_sub hl [0, 1, 2, 3] rfl)
    refine lv_istore_n (lv' := [(3, .int (0 : Int32)), (2, .int (-1 : Int32)), (0, .ref a0), (1, .int x1)]) hx hb dX9_third_15 rfl hl (by decide) rfl (fun ls hl => ?_)
    exact J16 _ (-1 : Int32) (0 : Int32) _ _ _ (Nat.lt_succ_self _) (iv_w (iv_c (x := (-1 : Int32)) (k := (-1)) (by decide)) (by decide)) (iv_w (iv_c (x := (0 : Int32)) (k := 0) (by decide)) (by decide)) hT hS (lv_sub hl [2, 3, 1, 0] rfl)
  · skip
    have kl0 : (0 : Int32).toInt = 0 := by decide
    have f6 := i_eq c6
    have hv3_6l : iv v3 0 0 := iv_eql hv3 (iv_c (x := (0 : Int32)) (k := 0) (by decide)) c6 (by decide)
    refine lv_bipush (v := (-2)) hx hb dX9_third_9 (by decide) ?_
    exact ret _ _ _ _ _ dX9_third_11 (⟨hT, iv_w (iv_c (x := (-2 : Int32)) (k := (-2)) (by decide)) (by decide)⟩) hS
