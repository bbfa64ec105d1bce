set_option maxHeartbeats 4000000 in
set_option maxRecDepth 100000 in
theorem t_X9_trueWorth (l : Launch) {D : va_G} {c0 : Nat → ClassId} {Y : Nat → Option Nat} {ν : Nat → Nat} {H : Heap} (hT : TI D vwCl (tysOf c0) (RTg ν) Y H) {a0 : Nat} (ha0 : Y a0 = some 9) {x1 : Int32} (hx1 : iv x1 0 7) {x2 : Int32} (hx2 : iv x2 (-2147483648) 2147483647) : Met l yX9_trueWorth (wz yX9_trueWorth cX9_trueWorth 3 (some .int)) { frames := 4, cells := 0, slots := 0, locals := 117 } (TP D vwCl (tysOf c0) H [.ref a0, .int x1, .int x2]) (TQi (fun x H' => TI D vwCl (tysOf c0) (RTg ν) Y H') Y [2, 4, 29]) 0 0 (pW Y [2, 4, 29]) := by
  refine Met.ofW (cc := cX9_trueWorth) (maxL := 3) (ret := (some .int)) (by decide) rfl ?_
  intro p e s m args below meth c s₁ B hml hv
  obtain ⟨rfl, rfl, hK⟩ := hv
  have hx := B.exec
  have hb := B.bytes
  have hr := B.returns
  have hts : ∀ w ∈ wq, w.before _ s = true := fun w h => atoms_spec (ws := wz yX9_trueWorth cX9_trueWorth 3 (some .int)) B.pre w (List.mem_cons_of_mem _ h)
  have hown : s.vm.findClass RX9 = some m.cls := findClass_of_methodNamed B.named
  have hlocks := B.notSynchronized
  obtain ⟨R, hR⟩ : ∃ R : Room, R = ({ frames := 4, cells := 0, slots := 0, locals := 117 } : Room) := ⟨_, rfl⟩
  rw [show (headSpec (wz yX9_trueWorth cX9_trueWorth 3 (some .int)) { frames := 4, cells := 0, slots := 0, locals := 117 }).room = R from hR.symm]
  refine ti_mi hx hb hr hlocks (fun Q ret => ?_)
  have hl := lv_entry [.ref a0, .int x1, .int x2] (n := 3) (Nat.le_of_ble_eq_true rfl)
  rw [lg_entry_eq]
  generalize (lg_sl [.ref a0, .int x1, .int x2] ++ List.replicate (3 - (lg_sl [.ref a0, .int x1, .int x2]).length) Slot.unset).toArray = ls at hl ⊢
  have hl : lv_has ls 3 [(0, .ref a0), (1, .int x1), (2, .int x2)] := hl
  refine ti_gen (P := fun H => TI D vwCl (tysOf c0) (RTg ν) Y H) (Y := Y) (ws := [2, 4, 29]) hT (fun H locs hT hS => ?_)
  refine lv_aload_n hx hb dX9_trueWorth_0 rfl (lv_at hl 0 rfl) ?_
  refine ti_getr hx hb hts inlX9 hown hK hT ha0 rfl rfl rfl 7 (by decide) (hts _ kw_34) (fun _ h9 => h9) rfl dX9_trueWorth_1 (fun v1 hv1 hm1 => ?_)
  refine lv_aload_n hx hb dX9_trueWorth_4 rfl (lv_at hl 0 rfl) ?_
  refine ti_getr hx hb hts inlX9 hown hK hT ha0 rfl rfl rfl 1 (by decide) (hts _ kw_20) (fun _ h9 => h9) rfl dX9_trueWorth_5 (fun v5 hv5 hm5 => ?_)
  refine lv_iload_n hx hb dX9_trueWorth_8 rfl (lv_at hl 1 rfl) ?_
  refine lv_iload_n hx hb dX9_trueWorth_9 rfl (lv_at hl 2 rfl) ?_
  refine lv_iconst (v := 1) hx hb dX9_trueWorth_10 (by decide) ?_
  refine ti_callv (va_runV (As := [.ref v5, .int x1, .int x2, .int (1 : Int32)]) (rest := []) ⟨hx, hb, hml, hown, hts⟩ (t_X2_see l hT hv1 hv5 (iv_w hx1 (by decide)) (iv_w hx2 (by decide)) (iv_w (iv_c (x := (1 : Int32)) (k := 1) (by decide)) (by decide))) (cwV 4 hts (good_V kw_1004 kw_867 kw_868 kw_33 kw_869) rfl rfl rfl (by decide +kernel) ⟨by rw [hR]; decide, by rw [hR]; decide⟩) (ti_preV hK hT hv1 rfl rfl) rfl rfl hl.1 rfl (lv_room (Nat.le_of_ble_eq_true rfl)) dX9_trueWorth_11 ⟨Nat.zero_le _, Nat.zero_le _⟩) hS (pW_sub rfl) (fun H locs hB hS _ hk11 => ?_)
  have hT := hB
  refine lv_aload_n hx hb dX9_trueWorth_14 rfl (lv_at hl 0 rfl) ?_
  refine ti_getE (ci := 9) (v := .ref v1) hx hb hts inlX9 hown hK (hm1.call hk11 (pW_not ha0 rfl)) rfl (by decide) (hts _ kw_34) (fun _ h9 => h9) dX9_trueWorth_15 ?_
  refine lv_aload_n hx hb dX9_trueWorth_18 rfl (lv_at hl 0 rfl) ?_
  refine ti_getE (ci := 9) (v := .ref v5) hx hb hts inlX9 hown hK (hm5.call hk11 (pW_not ha0 rfl)) rfl (by decide) (hts _ kw_20) (fun _ h9 => h9) dX9_trueWorth_19 ?_
  refine lv_iconst (v := 1) hx hb dX9_trueWorth_22 (by decide) ?_
  refine ti_callv (va_runV (As := [.ref v5, .int (1 : Int32)]) (rest := []) ⟨hx, hb, hml, hown, hts⟩ (t_X2_search l hT hv1 hv5 (iv_w (iv_c (x := (1 : Int32)) (k := 1) (by decide)) (by decide))) (cwV 2 hts (good_V kw_1022 kw_879 kw_880 kw_33 kw_881) rfl rfl rfl (by decide +kernel) ⟨by rw [hR]; decide, by rw [hR]; decide⟩) (ti_preV hK hT hv1 rfl rfl) rfl rfl hl.1 rfl (lv_room (Nat.le_of_ble_eq_true rfl)) dX9_trueWorth_23 ⟨Nat.zero_le _, Nat.zero_le _⟩) hS (pW_sub rfl) (fun H locs hB hS _ hk23 => ?_)
  have hT := hB
  refine lv_aload_n hx hb dX9_trueWorth_26 rfl (lv_at hl 0 rfl) ?_
  refine ti_getE (ci := 9) (v := .ref v1) hx hb hts inlX9 hown hK ((hm1.call hk11 (pW_not ha0 rfl)).call hk23 (pW_not ha0 rfl)) rfl (by decide) (hts _ kw_34) (fun _ h9 => h9) dX9_trueWorth_27 ?_
  refine lv_aload_n hx hb dX9_trueWorth_30 rfl (lv_at hl 0 rfl) ?_
  refine ti_getE (ci := 9) (v := .ref v5) hx hb hts inlX9 hown hK ((hm5.call hk11 (pW_not ha0 rfl)).call hk23 (pW_not ha0 rfl)) rfl (by decide) (hts _ kw_20) (fun _ h9 => h9) dX9_trueWorth_31 ?_
  refine lv_iconst (v := 0) hx hb dX9_trueWorth_34 (by decide) ?_
  refine ti_callv (va_runV (As := [.ref v5, .int (0 : Int32)]) (rest := []) ⟨hx, hb, hml, hown, hts⟩ (t_X2_search l hT hv1 hv5 (iv_w (iv_c (x := (0 : Int32)) (k := 0) (by decide)) (by decide))) (cwV 2 hts (good_V kw_1022 kw_879 kw_880 kw_33 kw_881) rfl rfl rfl (by decide +kernel) ⟨by rw [hR]; decide, by rw [hR]; decide⟩) (ti_preV hK hT hv1 rfl rfl) rfl rfl hl.1 rfl (lv_room (Nat.le_of_ble_eq_true rfl)) dX9_trueWorth_35 ⟨Nat.zero_le _, Nat.zero_le _⟩) hS (pW_sub rfl) (fun H locs hB hS _ hk35 => ?_)
  have hT := hB
  refine lv_aload_n hx hb dX9_trueWorth_38 rfl (lv_at hl 0 rfl) ?_
  refine ti_getE (ci := 9) (v := .ref v1) hx hb hts inlX9 hown hK (((hm1.call hk11 (pW_not ha0 rfl)).call hk23 (pW_not ha0 rfl)).call hk35 (pW_not ha0 rfl)) rfl (by decide) (hts _ kw_34) (fun _ h9 => h9) dX9_trueWorth_39 ?_
  refine lv_aload_n hx hb dX9_trueWorth_42 rfl (lv_at hl 0 rfl) ?_
  refine ti_getE (ci := 9) (v := .ref v5) hx hb hts inlX9 hown hK (((hm5.call hk11 (pW_not ha0 rfl)).call hk23 (pW_not ha0 rfl)).call hk35 (pW_not ha0 rfl)) rfl (by decide) (hts _ kw_20) (fun _ h9 => h9) dX9_trueWorth_43 ?_
  refine lv_iload_n hx hb dX9_trueWorth_46 rfl (lv_at hl 1 rfl) ?_
  refine lv_sipush (v := 255) hx hb dX9_trueWorth_47 (by decide) ?_
  refine lv_iconst (v := 1) hx hb dX9_trueWorth_50 (by decide) ?_
  refine ti_callv (va_runV (As := [.ref v5, .int x1, .int (255 : Int32), .int (1 : Int32)]) (rest := []) ⟨hx, hb, hml, hown, hts⟩ (t_X2_see l hT hv1 hv5 (iv_w hx1 (by decide)) (iv_w (iv_c (x := (255 : Int32)) (k := 255) (by decide)) (by decide)) (iv_w (iv_c (x := (1 : Int32)) (k := 1) (by decide)) (by decide))) (cwV 4 hts (good_V kw_1004 kw_867 kw_868 kw_33 kw_869) rfl rfl rfl (by decide +kernel) ⟨by rw [hR]; decide, by rw [hR]; decide⟩) (ti_preV hK hT hv1 rfl rfl) rfl rfl hl.1 rfl (lv_room (Nat.le_of_ble_eq_true rfl)) dX9_trueWorth_51 ⟨Nat.zero_le _, Nat.zero_le _⟩) hS (pW_sub rfl) (fun H locs hB hS _ hk51 => ?_)
  have hT := hB
  refine lv_aload_n hx hb dX9_trueWorth_54 rfl (lv_at hl 0 rfl) ?_
  refine ti_getE (ci := 9) (v := .ref v1) hx hb hts inlX9 hown hK ((((hm1.call hk11 (pW_not ha0 rfl)).call hk23 (pW_not ha0 rfl)).call hk35 (pW_not ha0 rfl)).call hk51 (pW_not ha0 rfl)) rfl (by decide) (hts _ kw_34) (fun _ h9 => h9) dX9_trueWorth_55 ?_
  refine lv_aload_n hx hb dX9_trueWorth_58 rfl (lv_at hl 0 rfl) ?_
  refine ti_getE (ci := 9) (v := .ref v5) hx hb hts inlX9 hown hK ((((hm5.call hk11 (pW_not ha0 rfl)).call hk23 (pW_not ha0 rfl)).call hk35 (pW_not ha0 rfl)).call hk51 (pW_not ha0 rfl)) rfl (by decide) (hts _ kw_20) (fun _ h9 => h9) dX9_trueWorth_59 ?_
  refine lv_aload_n hx hb dX9_trueWorth_62 rfl (lv_at hl 0 rfl) ?_
  refine ti_getE (ci := 9) (v := .ref v1) hx hb hts inlX9 hown hK ((((hm1.call hk11 (pW_not ha0 rfl)).call hk23 (pW_not ha0 rfl)).call hk35 (pW_not ha0 rfl)).call hk51 (pW_not ha0 rfl)) rfl (by decide) (hts _ kw_34) (fun _ h9 => h9) dX9_trueWorth_63 ?_
  refine ti_geti hx hb hts inlX2 hown hK hT hv1 rfl rfl rfl 5 (by decide) (hts _ kw_1018) (fun _ h9 => h9) rfl dX9_trueWorth_66 (fun v66 hv66 hm66 => ?_)
  refine lv_aload_n hx hb dX9_trueWorth_69 rfl (lv_at hl 0 rfl) ?_
  refine ti_getE (ci := 9) (v := .ref v1) hx hb hts inlX9 hown hK ((((hm1.call hk11 (pW_not ha0 rfl)).call hk23 (pW_not ha0 rfl)).call hk35 (pW_not ha0 rfl)).call hk51 (pW_not ha0 rfl)) rfl (by decide) (hts _ kw_34) (fun _ h9 => h9) dX9_trueWorth_70 ?_
  refine ti_geti hx hb hts inlX2 hown hK hT hv1 rfl rfl rfl 6 (by decide) (hts _ kw_1019) (fun _ h9 => h9) rfl dX9_trueWorth_73 (fun v73 hv73 hm73 => ?_)
  refine lv_aload_n hx hb dX9_trueWorth_76 rfl (lv_at hl 0 rfl) ?_
  refine ti_getE (ci := 9) (v := .ref v1) hx hb hts inlX9 hown hK ((((hm1.call hk11 (pW_not ha0 rfl)).call hk23 (pW_not ha0 rfl)).call hk35 (pW_not ha0 rfl)).call hk51 (pW_not ha0 rfl)) rfl (by decide) (hts _ kw_34) (fun _ h9 => h9) dX9_trueWorth_77 ?_
  refine ti_geti hx hb hts inlX2 hown hK hT hv1 rfl rfl rfl 7 (by decide) (hts _ kw_1020) (fun _ h9 => h9) rfl dX9_trueWorth_80 (fun v80 hv80 hm80 => ?_)
  refine lv_aload_n hx hb dX9_trueWorth_83 rfl (lv_at hl 0 rfl) ?_
  refine ti_getE (ci := 9) (v := .ref v1) hx hb hts inlX9 hown hK ((((hm1.call hk11 (pW_not ha0 rfl)).call hk23 (pW_not ha0 rfl)).call hk35 (pW_not ha0 rfl)).call hk51 (pW_not ha0 rfl)) rfl (by decide) (hts _ kw_34) (fun _ h9 => h9) dX9_trueWorth_84 ?_
  refine ti_geti hx hb hts inlX2 hown hK hT hv1 rfl rfl rfl 8 (by decide) (hts _ kw_1021) (fun _ h9 => h9) rfl dX9_trueWorth_87 (fun v87 hv87 hm87 => ?_)
  have hrel := mind_rel hT hv1 hm80 hm87
  refine ti_calli (va_runV (As := [.ref v5, .int v66, .int v73, .int v80, .int v87]) (rest := []) ⟨hx, hb, hml, hown, hts⟩ (t_X2_worthOf l hT hv1 hv5 (iv_w hv66 (by decide)) (iv_w hv73 (by decide)) (iv_w hv80 (by decide)) (iv_w hv87 (by decide)) (fun h9 => by have b0a := (hv80).1; have b0b := (hv80).2; have b1a := (hv87).1; have b1b := (hv87).2; omega)) (cwV 5 hts (good_V kw_1005 kw_1006 kw_1007 kw_33 kw_1008) rfl rfl rfl (by decide +kernel) ⟨by rw [hR]; decide, by rw [hR]; decide⟩) (ti_preV hK hT hv1 rfl rfl) rfl rfl hl.1 rfl (lv_room (Nat.le_of_ble_eq_true rfl)) dX9_trueWorth_90 ⟨Nat.zero_le _, Nat.zero_le _⟩) hS (pW_sub rfl) (fun v90 H locs hB hS _ hk90 => ?_)
  have hT := hB
  exact ret _ _ _ _ _ dX9_trueWorth_93 (hT) hS
set_option maxHeartbeats 4000000 in
set_option maxRecDepth 100000 in
theorem t_X9_know (l : Launch) {D : va_G} {c0 : Nat → ClassId} {Y : Nat → Option Nat} {ν : Nat → Nat} {H : Heap} (hT : TI D vwCl (tysOf c0) (RTg ν) Y H) {a0 : Nat} (ha0 : Y a0 = some 9) {x1 : Int32} (hx1 : iv x1 (-2147483648) 2147483647) : Met l yX9_know (wz yX9_know cX9_know 2 (some .int)) { frames := 5, cells := 0, slots := 0, locals := 139 } (TP D vwCl (tysOf c0) H [.ref a0, .int x1]) (TQi (fun x H' => TI D vwCl (tysOf c0) (RTg ν) Y H') Y [2, 4, 29]) 0 0 (pW Y [2, 4, 29]) := by
  refine Met.ofW (cc := cX9_know) (maxL := 2) (ret := (some .int)) (by decide) rfl ?_
  intro p e s m args below meth c s₁ B hml hv
  obtain ⟨rfl, rfl, hK⟩ := hv
  have hx := B.exec
  have hb := B.bytes
  have hr := B.returns
  have hts : ∀ w ∈ wq, w.before _ s = true := fun w h => atoms_spec (ws := wz yX9_know cX9_know 2 (some .int)) B.pre w (List.mem_cons_of_mem _ h)
  have hown : s.vm.findClass RX9 = some m.cls := findClass_of_methodNamed B.named
  have hlocks := B.notSynchronized
  obtain ⟨R, hR⟩ : ∃ R : Room, R = ({ frames := 5, cells := 0, slots := 0, locals := 139 } : Room) := ⟨_, rfl⟩
  rw [show (headSpec (wz yX9_know cX9_know 2 (some .int)) { frames := 5, cells := 0, slots := 0, locals := 139 }).room = R from hR.symm]
  refine ti_mi hx hb hr hlocks (fun Q ret => ?_)
  have hl := lv_entry [.ref a0, .int x1] (n := 2) (Nat.le_of_ble_eq_true rfl)
  rw [lg_entry_eq]
  generalize (lg_sl [.ref a0, .int x1] ++ List.replicate (2 - (lg_sl [.ref a0, .int x1]).length) Slot.unset).toArray = ls at hl ⊢
  have hl : lv_has ls 2 [(0, .ref a0), (1, .int x1)] := hl
  refine ti_gen (P := fun H => TI D vwCl (tysOf c0) (RTg ν) Y H) (Y := Y) (ws := [2, 4, 29]) hT (fun H locs hT hS => ?_)
  refine lv_aload_n hx hb dX9_know_0 rfl (lv_at hl 0 rfl) ?_
  refine lv_iload_n hx hb dX9_know_1 rfl (lv_at hl 1 rfl) ?_
  refine lv_i2l hx hb dX9_know_2 rfl ?_
  refine lv_topl (fun v2 e2 => ?_)
  have hv2 : jv v2 (-2147483648) 2147483647 := by rw [e2]; exact jv_i hx1
  have t2 : v2.toInt = x1.toInt := by rw [e2]; exact jv_e _
  refine ti_calli (va_runV (As := [.long v2]) (rest := []) ⟨hx, hb, hml, hown, hts⟩ (t_X9_isPerson l hT ha0 (jv_w hv2 (by decide))) (cwV 1 hts (good_V kw_476 kw_477 kw_478 kw_2 kw_479) rfl rfl rfl (by decide +kernel) ⟨by rw [hR]; decide, by rw [hR]; decide⟩) (ti_preV hK hT ha0 rfl rfl) rfl rfl hl.1 rfl (lv_room (Nat.le_of_ble_eq_true rfl)) dX9_know_3 ⟨Nat.zero_le _, Nat.zero_le _⟩) hS (pW_sub rfl) (fun v3 H1 locs hB hS _ hk3 => ?_)
  obtain ⟨hH, hv3, hp3⟩ := hB
  rw [hH] at hS ⊢
  refine lv_if_eq (tgt := 27) hx hb dX9_know_6 (by decide) (fun c6 => ?_) (fun c6 => ?_)
  · skip
    have kl0 : (0 : Int32).toInt = 0 := by decide
    have f6 := i_eq c6
    have hv3_6l : iv v3 0 0 := iv_eql hv3 (iv_c (x := (0 : Int32)) (k := 0) (by decide)) c6 (by decide)
    refine lv_ldc (v := (-2000000000)) hx hb hown (hts _ kw_1003) dX9_know_27 ?_
    exact ret _ _ _ _ _ dX9_know_29 (hT) hS
  · skip
    have kl0 : (0 : Int32).toInt = 0 := by decide
    have f6 := i_ne c6
    have hv3_6l : iv v3 1 1 := iv_nel hv3 (iv_c (x := (0 : Int32)) (k := 0) (by decide)) c6 (by decide)
    have hv2_6p : jv v2 0 7 := by have b0a := (hv2).1; have b0b := (hv2).2; exact ⟨by omega, by omega⟩
    have hx1_6p : iv x1 0 7 := by have := t2; have b0a := (hv2_6p).1; have b0b := (hv2_6p).2; have b1a := (hx1).1; have b1b := (hx1).2; exact ⟨by omega, by omega⟩
    refine lv_aload_n hx hb dX9_know_9 rfl (lv_at hl 0 rfl) ?_
    refine lv_iload_n hx hb dX9_know_10 rfl (lv_at hl 1 rfl) ?_
    refine lv_sipush (v := 255) hx hb dX9_know_11 (by decide) ?_
    refine ti_calli (va_runV (As := [.int x1, .int (255 : Int32)]) (rest := []) ⟨hx, hb, hml, hown, hts⟩ (t_X9_trueWorth l hT ha0 (iv_w hx1_6p (by decide)) (iv_w (iv_c (x := (255 : Int32)) (k := 255) (by decide)) (by decide))) (cwV 2 hts (good_V kw_1267 kw_1268 kw_1269 kw_2 kw_1270) rfl rfl rfl (by decide +kernel) ⟨by rw [hR]; decide, by rw [hR]; decide⟩) (ti_preV hK hT ha0 rfl rfl) rfl rfl hl.1 rfl (lv_room (Nat.le_of_ble_eq_true rfl)) dX9_know_14 ⟨Nat.zero_le _, Nat.zero_le _⟩) hS (pW_sub rfl) (fun v14 H locs hB hS _ hk14 => ?_)
    have hT := hB
    have kl255 : (255 : Int32).toInt = 255 := by decide
    refine lv_aload_n hx hb dX9_know_17 rfl (lv_at hl 0 rfl) ?_
    refine lv_iload_n hx hb dX9_know_18 rfl (lv_at hl 1 rfl) ?_
    refine lv_iconst (v := 0) hx hb dX9_know_19 (by decide) ?_
    refine ti_calli (va_runV (As := [.int x1, .int (0 : Int32)]) (rest := [.int v14]) ⟨hx, hb, hml, hown, hts⟩ (t_X9_trueWorth l hT ha0 (iv_w hx1_6p (by decide)) (iv_w (iv_c (x := (0 : Int32)) (k := 0) (by decide)) (by decide))) (cwV 2 hts (good_V kw_1267 kw_1268 kw_1269 kw_2 kw_1270) rfl rfl rfl (by decide +kernel) ⟨by rw [hR]; decide, by rw [hR]; decide⟩) (ti_preV hK hT ha0 rfl rfl) rfl rfl hl.1 rfl (lv_room (Nat.le_of_ble_eq_true rfl)) dX9_know_20 ⟨Nat.zero_le _, Nat.zero_le _⟩) hS (pW_sub rfl) (fun v20 H locs hB hS _ hk20 => ?_)
    have hT := hB
    refine lv_isub hx hb dX9_know_23 ?_
    refine lv_topi (fun v23 e23 => ?_)
    have hv23 : iv v23 (-2147483648) 2147483647 := iv_top _
    refine lv_goto (tgt := 29) hx hb dX9_know_24 (by decide) ?_
    exact ret _ _ _ _ _ dX9_know_29 (hT) hS
set_option maxHeartbeats 4000000 in
set_option maxRecDepth 100000 in
theorem t_X9_knows (l : Launch) {D : va_G} {c0 : Nat → ClassId} {Y : Nat → Option Nat} {ν : Nat → Nat} {H : Heap} (hT : TI D vwCl (tysOf c0) (RTg ν) Y H) {a0 : Nat} (ha0 : Y a0 = some 9) {x1 : Int32} (hx1 : iv x1 (-2147483648) 2147483647) {x2 : Int32} (hx2 : iv x2 (-2147483648) 2147483647) : Met l yX9_knows (wz yX9_knows cX9_knows 3 (some .int)) { frames := 5, cells := 0, slots := 0, locals := 139 } (TP D vwCl (tysOf c0) H [.ref a0, .int x1, .int x2]) (TQi (fun x H' => TI D vwCl (tysOf c0) (RTg ν) Y H') Y [2, 4, 29]) 0 0 (pW Y [2, 4, 29]) := by
  refine Met.ofW (cc := cX9_knows) (maxL := 3) (ret := (some .int)) (by decide) rfl ?_
  intro p e s m args below meth c s₁ B hml hv
  obtain ⟨rfl, rfl, hK⟩ := hv
  have hx := B.exec
  have hb := B.bytes
  have hr := B.returns
  have hts : ∀ w ∈ wq, w.before _ s = true := fun w h => atoms_spec (ws := wz yX9_knows cX9_knows 3 (some .int)) B.pre w (List.mem_cons_of_mem _ h)
  have hown : s.vm.findClass RX9 = some m.cls := findClass_of_methodNamed B.named
  have hlocks := B.notSynchronized
  obtain ⟨R, hR⟩ : ∃ R : Room, R = ({ frames := 5, cells := 0, slots := 0, locals := 139 } : Room) := ⟨_, rfl⟩
  rw [show (headSpec (wz yX9_knows cX9_knows 3 (some .int)) { frames := 5, cells := 0, slots := 0, locals := 139 }).room = R from hR.symm]
  refine ti_mi hx hb hr hlocks (fun Q ret => ?_)
  have hl := lv_entry [.ref a0, .int x1, .int x2] (n := 3) (Nat.le_of_ble_eq_true rfl)
  rw [lg_entry_eq]
  generalize (lg_sl [.ref a0, .int x1, .int x2] ++ List.replicate (3 - (lg_sl [.ref a0, .int x1, .int x2]).length) Slot.unset).toArray = ls at hl ⊢
  have hl : lv_has ls 3 [(0, .ref a0), (1, .int x1), (2, .int x2)] := hl
  refine ti_gen (P := fun H => TI D vwCl (tysOf c0) (RTg ν) Y H) (Y := Y) (ws := [2, 4, 29]) hT (fun H locs hT hS => ?_)
  refine lv_aload_n hx hb dX9_knows_0 rfl (lv_at hl 0 rfl) ?_
  refine lv_iload_n hx hb dX9_knows_1 rfl (lv_at hl 1 rfl) ?_
  refine lv_iload_n hx hb dX9_knows_2 rfl (lv_at hl 2 rfl) ?_
  refine ti_calli (va_runV (As := [.int x1, .int x2]) (rest := []) ⟨hx, hb, hml, hown, hts⟩ (t_X9_arePair l hT ha0 (iv_w hx1 (by decide)) (iv_w hx2 (by decide))) (cwV 2 hts (good_V kw_529 kw_530 kw_531 kw_2 kw_532) rfl rfl rfl (by decide +kernel) ⟨by rw [hR]; decide, by rw [hR]; decide⟩) (ti_preV hK hT ha0 rfl rfl) rfl rfl hl.1 rfl (lv_room (Nat.le_of_ble_eq_true rfl)) dX9_knows_3 ⟨Nat.zero_le _, Nat.zero_le _⟩) hS (pW_sub rfl) (fun v3 H1 locs hB hS _ hk3 => ?_)
  obtain ⟨hH, hv3, hp3⟩ := hB
  rw [hH] at hS ⊢
  refine lv_if_eq (tgt := 27) hx hb dX9_knows_6 (by decide) (fun c6 => ?_) (fun c6 => ?_)
  · skip
    have kl0 : (0 : Int32).toInt = 0 := by decide
    have f6 := i_eq c6
    have hv3_6l : iv v3 0 0 := iv_eql hv3 (iv_c (x := (0 : Int32)) (k := 0) (by decide)) c6 (by decide)
    refine lv_ldc (v := (-2000000000)) hx hb hown (hts _ kw_1003) dX9_knows_27 ?_
    exact ret _ _ _ _ _ dX9_knows_29 (hT) hS
  · skip
    have kl0 : (0 : Int32).toInt = 0 := by decide
    have f6 := i_ne c6
    have hv3_6l : iv v3 1 1 := iv_nel hv3 (iv_c (x := (0 : Int32)) (k := 0) (by decide)) c6 (by decide)
    have hx1_6p : iv x1 0 7 := by have b0a := (hx1).1; have b0b := (hx1).2; exact ⟨by omega, by omega⟩
    have hx2_6p : iv x2 0 7 := by have b0a := (hx2).1; have b0b := (hx2).2; exact ⟨by omega, by omega⟩
    refine lv_aload_n hx hb dX9_knows_9 rfl (lv_at hl 0 rfl) ?_
    refine lv_iload_n hx hb dX9_knows_10 rfl (lv_at hl 1 rfl) ?_
    refine lv_iconst (v := 1) hx hb dX9_knows_11 (by decide) ?_
    refine lv_iload_n hx hb dX9_knows_12 rfl (lv_at hl 2 rfl) ?_
    refine lv_ishl hx hb dX9_knows_13 ?_
    refine lv_topi (fun v13 e13 => ?_)
    have hv13 : iv v13 (-2147483648) 2147483647 := iv_top _
    refine ti_calli (va_runV (As := [.int x1, .int v13]) (rest := []) ⟨hx, hb, hml, hown, hts⟩ (t_X9_trueWorth l hT ha0 (iv_w hx1_6p (by decide)) (iv_w hv13 (by decide))) (cwV 2 hts (good_V kw_1267 kw_1268 kw_1269 kw_2 kw_1270) rfl rfl rfl (by decide +kernel) ⟨by rw [hR]; decide, by rw [hR]; decide⟩) (ti_preV hK hT ha0 rfl rfl) rfl rfl hl.1 rfl (lv_room (Nat.le_of_ble_eq_true rfl)) dX9_knows_14 ⟨Nat.zero_le _, Nat.zero_le _⟩) hS (pW_sub rfl) (fun v14 H locs hB hS _ hk14 => ?_)
    have hT := hB
    refine lv_aload_n hx hb dX9_knows_17 rfl (lv_at hl 0 rfl) ?_
    refine lv_iload_n hx hb dX9_knows_18 rfl (lv_at hl 1 rfl) ?_
    refine lv_iconst (v := 0) hx hb dX9_knows_19 (by decide) ?_
    refine ti_calli (va_runV (As := [.int x1, .int (0 : Int32)]) (rest := [.int v14]) ⟨hx, hb, hml, hown, hts⟩ (t_X9_trueWorth l hT ha0 (iv_w hx1_6p (by decide)) (iv_w (iv_c (x := (0 : Int32)) (k := 0) (by decide)) (by decide))) (cwV 2 hts (good_V kw_1267 kw_1268 kw_1269 kw_2 kw_1270) rfl rfl rfl (by decide +kernel) ⟨by rw [hR]; decide, by rw [hR]; decide⟩) (ti_preV hK hT ha0 rfl rfl) rfl rfl hl.1 rfl (lv_room (Nat.le_of_ble_eq_true rfl)) dX9_knows_20 ⟨Nat.zero_le _, Nat.zero_le _⟩) hS (pW_sub rfl) (fun v20 H locs hB hS _ hk20 => ?_)
    have hT := hB
    refine lv_isub hx hb dX9_knows_23 ?_
    refine lv_topi (fun v23 e23 => ?_)
    have hv23 : iv v23 (-2147483648) 2147483647 := iv_top _
    refine lv_goto (tgt := 29) hx hb dX9_knows_24 (by decide) ?_
    exact ret _ _ _ _ _ dX9_knows_29 (hT) hS
set_option maxHeartbeats 4000000 in
set_option maxRecDepth 100000 in
theorem t_X9_canLend (l : Launch) {D : va_G} {c0 : Nat → ClassId} {Y : Nat → Option Nat} {ν : Nat → Nat} {H : Heap} (hT : TI D vwCl (tysOf c0) (RTg ν) Y H) {a0 : Nat} (ha0 : Y a0 = some 9) {x1 : Int32} (hx1 : iv x1 0 7) {x2 : Int32} (hx2 : iv x2 0 7) {x3 : Int32} (hx3 : iv x3 1 30) : Met l yX9_canLend (wz yX9_canLend cX9_canLend 4 (some .boolean)) { frames := 0, cells := 0, slots := 0, locals := 0 } (TP D vwCl (tysOf c0) H [.ref a0, .int x1, .int x2, .int x3]) (TQi (fun x H' => H' = H ∧ iv x 0 1) Y []) 0 0 (pW Y []) := by
  refine Met.ofW (cc := cX9_canLend) (maxL := 4) (ret := (some .boolean)) (by decide) rfl ?_
  intro p e s m args below meth c s₁ B hml hv
  obtain ⟨rfl, rfl, hK⟩ := hv
  have hx := B.exec
  have hb := B.bytes
  have hr := B.returns
  have hts : ∀ w ∈ wq, w.before _ s = true := fun w h => atoms_spec (ws := wz yX9_canLend cX9_canLend 4 (some .boolean)) B.pre w (List.mem_cons_of_mem _ h)
  have hown : s.vm.findClass RX9 = some m.cls := findClass_of_methodNamed B.named
  have hlocks := B.notSynchronized
  obtain ⟨R, hR⟩ : ∃ R : Room, R = ({ frames := 0, cells := 0, slots := 0, locals := 0 } : Room) := ⟨_, rfl⟩
  rw [show (headSpec (wz yX9_canLend cX9_canLend 4 (some .boolean)) { frames := 0, cells := 0, slots := 0, locals := 0 }).room = R from hR.symm]
  refine ti_mz hx hb hr hlocks (fun Q ret => ?_)
  have hl := lv_entry [.ref a0, .int x1, .int x2, .int x3] (n := 4) (Nat.le_of_ble_eq_true rfl)
  rw [lg_entry_eq]
  generalize (lg_sl [.ref a0, .int x1, .int x2, .int x3] ++ List.replicate (4 - (lg_sl [.ref a0, .int x1, .int x2, .int x3]).length) Slot.unset).toArray = ls at hl ⊢
  have hl : lv_has ls 4 [(0, .ref a0), (1, .int x1), (2, .int x2), (3, .int x3)] := hl
  have hS : va_S (pW Y []) s.heap s.heap [] := va_S.rf
  refine lv_iload_n hx hb dX9_canLend_0 rfl (lv_at hl 3 rfl) ?_
  refine lv_aload_n hx hb dX9_canLend_1 rfl (lv_at hl 0 rfl) ?_
  refine ti_getr hx hb hts inlX9 hown hK hT ha0 rfl rfl rfl 1 (by decide) (hts _ kw_20) (fun _ h9 => h9) rfl dX9_canLend_2 (fun v2 hv2 hm2 => ?_)
  refine ti_getr hx hb hts inlX7 hown hK hT hv2 rfl rfl rfl 8 (by decide) (hts _ kw_471) (fun _ h9 => h9) rfl dX9_canLend_5 (fun v5 hv5 hm5 => ?_)
  refine lv_iload_n hx hb dX9_canLend_8 rfl (lv_at hl 1 rfl) ?_
  refine ti_aald hx hb (aT6 hK) hT hv5 rfl hx1 (by decide) (fun _ _ _ => rfl) dX9_canLend_9 (fun v9 hv9 => ?_)
  refine ti_geti hx hb hts inlX3 hown hK hT hv9 rfl rfl rfl 0 (by decide) (hts _ kw_472) (fun _ h9 => h9) rfl dX9_canLend_10 (fun v10 hv10 hm10 => ?_)
  refine lv_icmp_gt (tgt := 44) hx hb dX9_canLend_13 (by decide) (fun c13 => ?_) (fun c13 => ?_)
  · skip
    have f13 := i_lt c13
    have hv10_13l : iv v10 (-2147483648) 29 := iv_ltl hv10 hx3 c13 (by decide)
    refine lv_iconst (v := 0) hx hb dX9_canLend_44 (by decide) ?_
    exact ret _ _ _ _ _ dX9_canLend_45 (iv_w (iv_c (x := (0 : Int32)) (k := 0) (by decide)) (by decide)) (⟨rfl, iv_w (iv_c (x := (0 : Int32)) (k := 0) (by decide)) (by decide)⟩) hS
  · skip
    have f13 := i_nlt c13
    have hv10_13r : iv v10 1 100000 := iv_ler hx3 hv10 (Int32.not_lt.mp c13) (by decide)
    refine lv_aload_n hx hb dX9_canLend_16 rfl (lv_at hl 0 rfl) ?_
    refine ti_getE (ci := 9) (v := .ref v2) hx hb hts inlX9 hown hK hm2 rfl (by decide) (hts _ kw_20) (fun _ h9 => h9) dX9_canLend_17 ?_
    refine ti_getE (ci := 7) (v := .ref v5) hx hb hts inlX7 hown hK hm5 rfl (by decide) (hts _ kw_471) (fun _ h9 => h9) dX9_canLend_20 ?_
    refine lv_iload_n hx hb dX9_canLend_23 rfl (lv_at hl 2 rfl) ?_
    refine ti_aald hx hb (aT6 hK) hT hv5 rfl hx2 (by decide) (fun _ _ _ => rfl) dX9_canLend_24 (fun v24 hv24 => ?_)
    refine ti_geti hx hb hts inlX3 hown hK hT hv24 rfl rfl rfl 0 (by decide) (hts _ kw_472) (fun _ h9 => h9) rfl dX9_canLend_25 (fun v25 hv25 hm25 => ?_)
    refine lv_iload_n hx hb dX9_canLend_28 rfl (lv_at hl 3 rfl) ?_
    refine lv_iadd hx hb dX9_canLend_29 ?_
    refine lv_topi (fun v29 e29 => ?_)
    have hv29 : iv v29 (-2147483647) 100030 := by rw [e29]; exact iv_w (iv_add hv25 hx3 (by decide)) (by decide)
    have s29 : v29.toInt = v25.toInt + x3.toInt := by rw [e29]; exact iv_addE hv25 hx3 (by decide)
    refine lv_aload_n hx hb dX9_canLend_30 rfl (lv_at hl 0 rfl) ?_
    refine ti_getE (ci := 9) (v := .ref v2) hx hb hts inlX9 hown hK hm2 rfl (by decide) (hts _ kw_20) (fun _ h9 => h9) dX9_canLend_31 ?_
    refine ti_geti hx hb hts inlX7 hown hK hT hv2 rfl rfl rfl 0 (by decide) (hts _ kw_498) (fun _ h9 => h9) rfl dX9_canLend_34 (fun v34 hv34 hm34 => ?_)
    refine lv_icmp_gt (tgt := 44) hx hb dX9_canLend_37 (by decide) (fun c37 => ?_) (fun c37 => ?_)
    · skip
      have f37 := i_lt c37
      refine lv_iconst (v := 0) hx hb dX9_canLend_44 (by decide) ?_
      exact ret _ _ _ _ _ dX9_canLend_45 (iv_w (iv_c (x := (0 : Int32)) (k := 0) (by decide)) (by decide)) (⟨rfl, iv_w (iv_c (x := (0 : Int32)) (k := 0) (by decide)) (by decide)⟩) hS
    · skip
      have f37 := i_nlt c37
      have hv29_37l : iv v29 (-2147483647) 100000 := iv_lel hv29 hv34 (Int32.not_lt.mp c37) (by decide)
      have hv34_37r : iv v34 (-2147483647) 100000 := iv_ler hv29_37l hv34 (Int32.not_lt.mp c37) (by decide)
      have hq37_8 : iv v25 (-2147483648) 99999 := by have b0a := (hv29_37l).1; have b0b := (hv29_37l).2; have b1a := (hv25).1; have b1b := (hv25).2; have b2a := (hx3).1; have b2b := (hx3).2; exact ⟨by omega, by omega⟩
      refine lv_iconst (v := 1) hx hb dX9_canLend_40 (by decide) ?_
      refine lv_goto (tgt := 45) hx hb dX9_canLend_41 (by decide) ?_
      exact ret _ _ _ _ _ dX9_canLend_45 (iv_w (iv_c (x := (1 : Int32)) (k := 1) (by decide)) (by decide)) (⟨rfl, iv_w (iv_c (x := (1 : Int32)) (k := 1) (by decide)) (by decide)⟩) hS
set_option maxHeartbeats 4000000 in
set_option maxRecDepth 100000 in
theorem t_X9_lend (l : Launch) {D : va_G} {c0 : Nat → ClassId} {Y : Nat → Option Nat} {ν : Nat → Nat} {H : Heap} (hT : TI D vwCl (tysOf c0) (RTg ν) Y H) {a0 : Nat} (ha0 : Y a0 = some 9) {x1 : Int32} (hx1 : iv x1 (-2147483648) 2147483647) {x2 : Int32} (hx2 : iv x2 (-2147483648) 2147483647) {x3 : Int32} (hx3 : iv x3 (-2147483648) 2147483647) : Met l yX9_lend (wz yX9_lend cX9_lend 5 (some .int)) { frames := 2, cells := 0, slots := 0, locals := 46 } (TP D vwCl (tysOf c0) H [.ref a0, .int x1, .int x2, .int x3]) (TQi (fun x H' => TI D vwCl (tysOf c0) (RTg ν) Y H' ∧ iv x (-5) 6) Y [1, 3, 20, 28]) 0 0 (pW Y [1, 3, 20, 28]) := by
  refine Met.ofW (cc := cX9_lend) (maxL := 5) (ret := (some .int)) (by decide) rfl ?_
  intro p e s m args below meth c s₁ B hml hv
  obtain ⟨rfl, rfl, hK⟩ := hv
  have hx := B.exec
  have hb := B.bytes
  have hr := B.returns
  have hts : ∀ w ∈ wq, w.before _ s = true := fun w h => atoms_spec (ws := wz yX9_lend cX9_lend 5 (some .int)) B.pre w (List.mem_cons_of_mem _ h)
  have hown : s.vm.findClass RX9 = some m.cls := findClass_of_methodNamed B.named
  have hlocks := B.notSynchronized
  obtain ⟨R, hR⟩ : ∃ R : Room, R = ({ frames := 2, cells := 0, slots := 0, locals := 46 } : Room) := ⟨_, rfl⟩
  rw [show (headSpec (wz yX9_lend cX9_lend 5 (some .int)) { frames := 2, cells := 0, slots := 0, locals := 46 }).room = R from hR.symm]
  refine ti_mi hx hb hr hlocks (fun Q ret => ?_)
  have hl := lv_entry [.ref a0, .int x1, .int x2, .int x3] (n := 5) (Nat.le_of_ble_eq_true rfl)
  rw [lg_entry_eq]
  generalize (lg_sl [.ref a0, .int x1, .int x2, .int x3] ++ List.replicate (5 - (lg_sl [.ref a0, .int x1, .int x2, .int x3]).length) Slot.unset).toArray = ls at hl ⊢
  have hl : lv_has ls 5 [(0, .ref a0), (1, .int x1), (2, .int x2), (3, .int x3)] := hl
  refine ti_gen (P := fun H => TI D vwCl (tysOf c0) (RTg ν) Y H) (Y := Y) (ws := [1, 3, 20, 28]) hT (fun H locs hT hS => ?_)
  refine lv_aload_n hx hb dX9_lend_0 rfl (lv_at hl 0 rfl) ?_
  refine lv_iload_n hx hb dX9_lend_1 rfl (lv_at hl 1 rfl) ?_
  refine lv_iload_n hx hb dX9_lend_2 rfl (lv_at hl 2 rfl) ?_
  refine ti_calli (va_runV (As := [.int x1, .int x2]) (rest := []) ⟨hx, hb, hml, hown, hts⟩ (t_X9_arePair l hT ha0 (iv_w hx1 (by decide)) (iv_w hx2 (by decide))) (cwV 2 hts (good_V kw_529 kw_530 kw_531 kw_2 kw_532) rfl rfl rfl (by decide +kernel) ⟨by rw [hR]; decide, by rw [hR]; decide⟩) (ti_preV hK hT ha0 rfl rfl) rfl rfl hl.1 rfl (lv_room (Nat.le_of_ble_eq_true rfl)) dX9_lend_3 ⟨Nat.zero_le _, Nat.zero_le _⟩) hS (pW_sub rfl) (fun v3 H1 locs hB hS _ hk3 => ?_)
  obtain ⟨hH, hv3, hp3⟩ := hB
  rw [hH] at hS ⊢
  refine lv_if_eq (tgt := 20) hx hb dX9_lend_6 (by decide) (fun c6 => ?_) (fun c6 => ?_)
  · skip
    have kl0 : (0 : Int32).toInt = 0 := by decide
    have f6 := i_eq c6
    have hv3_6l : iv v3 0 0 := iv_eql hv3 (iv_c (x := (0 : Int32)) (k := 0) (by decide)) c6 (by decide)
    refine lv_bipush (v := (-2)) hx hb dX9_lend_20 (by decide) ?_
    exact ret _ _ _ _ _ dX9_lend_22 (⟨hT, iv_w (iv_c (x := (-2 : Int32)) (k := (-2)) (by decide)) (by decide)⟩) hS
  · skip
    have kl0 : (0 : Int32).toInt = 0 := by decide
    have f6 := i_ne c6
    have hv3_6l : iv v3 1 1 := iv_nel hv3 (iv_c (x := (0 : Int32)) (k := 0) (by decide)) c6 (by decide)
    have hx1_6p : iv x1 0 7 := by have b0a := (hx1).1; have b0b := (hx1).2; exact ⟨by omega, by omega⟩
    have hx2_6p : iv x2 0 7 := by have b0a := (hx2).1; have b0b := (hx2).2; exact ⟨by omega, by omega⟩
    refine lv_iload_n hx hb dX9_lend_9 rfl (lv_at hl 3 rfl) ?_
    refine lv_iconst (v := 1) hx hb dX9_lend_10 (by decide) ?_
    refine lv_icmp_lt (tgt := 20) hx hb dX9_lend_11 (by decide) (fun c11 => ?_) (fun c11 => ?_)
    · skip
      have kl1 : (1 : Int32).toInt = 1 := by decide
      have f11 := i_lt c11
      have hx3_11l : iv x3 (-2147483648) 0 := iv_ltl hx3 (iv_c (x := (1 : Int32)) (k := 1) (by decide)) c11 (by decide)
      refine lv_bipush (v := (-2)) hx hb dX9_lend_20 (by decide) ?_
      exact ret _ _ _ _ _ dX9_lend_22 (⟨hT, iv_w (iv_c (x := (-2 : Int32)) (k := (-2)) (by decide)) (by decide)⟩) hS
    · skip
      have kl1 : (1 : Int32).toInt = 1 := by decide
      have f11 := i_nlt c11
      have hx3_11r : iv x3 1 2147483647 := iv_ler (iv_c (x := (1 : Int32)) (k := 1) (by decide)) hx3 (Int32.not_lt.mp c11) (by decide)
      refine lv_iload_n hx hb dX9_lend_14 rfl (lv_at hl 3 rfl) ?_
      refine lv_bipush (v := 30) hx hb dX9_lend_15 (by decide) ?_
      refine lv_icmp_le (tgt := 23) hx hb dX9_lend_17 (by decide) (fun c17 => ?_) (fun c17 => ?_)
      · skip
        have kl30 : (30 : Int32).toInt = 30 := by decide
        have f17 := i_le c17
        have hx3_17l : iv x3 1 30 := iv_lel hx3_11r (iv_c (x := (30 : Int32)) (k := 30) (by decide)) c17 (by decide)
        refine lv_aload_n hx hb dX9_lend_23 rfl (lv_at hl 0 rfl) ?_
        refine ti_getr hx hb hts inlX9 hown hK hT ha0 rfl rfl rfl 1 (by decide) (hts _ kw_20) (fun _ h9 => h9) rfl dX9_lend_24 (fun v24 hv24 hm24 => ?_)
        refine ti_getr hx hb hts inlX7 hown hK hT hv24 rfl rfl rfl 7 (by decide) (hts _ kw_1299) (fun _ h9 => h9) rfl dX9_lend_27 (fun v27 hv27 hm27 => ?_)
        refine ti_geti hx hb hts inlX1 hown hK hT hv27 rfl rfl rfl 0 (by decide) (hts _ kw_1300) (fun _ h9 => h9) rfl dX9_lend_30 (fun v30 hv30 hm30 => ?_)
        refine lv_istore (lv' := [(4, .int v30), (0, .ref a0), (1, .int x1), (2, .int x2), (3, .int x3)]) hx hb dX9_lend_33 hl (by decide) rfl (fun ls hl => ?_)
        refine lv_iload hx hb dX9_lend_35 (lv_at hl 0 rfl) ?_
        refine lv_bipush (v := 6) hx hb dX9_lend_37 (by decide) ?_
        refine lv_icmp_lt (tgt := 45) hx hb dX9_lend_39 (by decide) (fun c39 => ?_) (fun c39 => ?_)
        · skip
          have kl6 : (6 : Int32).toInt = 6 := by decide
          have f39 := i_lt c39
          have hv30_39l : iv v30 0 5 := iv_ltl hv30 (iv_c (x := (6 : Int32)) (k := 6) (by decide)) c39 (by decide)
          refine lv_aload_n hx hb dX9_lend_45 rfl (lv_at hl 1 rfl) ?_
          refine lv_iload_n hx hb dX9_lend_46 rfl (lv_at hl 2 rfl) ?_
          refine lv_iload_n hx hb dX9_lend_47 rfl (lv_at hl 3 rfl) ?_
          refine lv_iload_n hx hb dX9_lend_48 rfl (lv_at hl 4 rfl) ?_
          refine ti_calli (va_runV (As := [.int x1, .int x2, .int x3]) (rest := []) ⟨hx, hb, hml, hown, hts⟩ (t_X9_canLend l hT ha0 (iv_w hx1_6p (by decide)) (iv_w hx2_6p (by decide)) (iv_w hx3_17l (by decide))) (cwV 3 hts (good_V kw_1304 kw_1305 kw_1306 kw_2 kw_1307) rfl rfl rfl (by decide +kernel) ⟨by rw [hR]; decide, by rw [hR]; decide⟩) (ti_preV hK hT ha0 rfl rfl) rfl rfl hl.1 rfl (lv_room (Nat.le_of_ble_eq_true rfl)) dX9_lend_49 ⟨Nat.zero_le _, Nat.zero_le _⟩) hS (pW_sub rfl) (fun v49 H1 locs hB hS _ hk49 => ?_)
          obtain ⟨hH, hv49⟩ := hB
          rw [hH] at hS ⊢
          refine lv_if_ne (tgt := 58) hx hb dX9_lend_52 (by decide) (fun c52 => ?_) (fun c52 => ?_)
          · skip
            have f52 := i_ne c52
            have hv49_52l : iv v49 1 1 := iv_nel hv49 (iv_c (x := (0 : Int32)) (k := 0) (by decide)) c52 (by decide)
            refine lv_aload_n hx hb dX9_lend_58 rfl (lv_at hl 1 rfl) ?_
            refine ti_getE (ci := 9) (v := .ref v24) hx hb hts inlX9 hown hK hm24 rfl (by decide) (hts _ kw_20) (fun _ h9 => h9) dX9_lend_59 ?_
            refine lv_iload_n hx hb dX9_lend_62 rfl (lv_at hl 2 rfl) ?_
            refine lv_iload_n hx hb dX9_lend_63 rfl (lv_at hl 3 rfl) ?_
            refine lv_iload_n hx hb dX9_lend_64 rfl (lv_at hl 4 rfl) ?_
            refine ti_callv (va_runV (As := [.int x1, .int x2, .int x3]) (rest := []) ⟨hx, hb, hml, hown, hts⟩ (t_X7_hand l hT hv24 (iv_w hx1_6p (by decide)) (iv_w hx2_6p (by decide)) (iv_w hx3_17l (by decide))) (cwV 3 hts (good_V kw_1308 kw_712 kw_713 kw_19 kw_714) rfl rfl rfl (by decide +kernel) ⟨by rw [hR]; decide, by rw [hR]; decide⟩) (ti_preV hK hT hv24 rfl rfl) rfl rfl hl.1 rfl (lv_room (Nat.le_of_ble_eq_true rfl)) dX9_lend_65 ⟨Nat.zero_le _, Nat.zero_le _⟩) hS (pW_sub rfl) (fun H locs hB hS _ hk65 => ?_)
            have hT := hB
            refine lv_aload_n hx hb dX9_lend_68 rfl (lv_at hl 1 rfl) ?_
            refine ti_getE (ci := 9) (v := .ref v24) hx hb hts inlX9 hown hK (hm24.call hk65 (pW_not ha0 rfl)) rfl (by decide) (hts _ kw_20) (fun _ h9 => h9) dX9_lend_69 ?_
            refine ti_getE (ci := 7) (v := .ref v27) hx hb hts inlX7 hown hK (hm27.call hk65 (pW_not hv24 rfl)) rfl (by decide) (hts _ kw_1299) (fun _ h9 => h9) dX9_lend_72 ?_
            refine ti_getr hx hb hts inlX1 hown hK hT hv27 rfl rfl rfl 1 (by decide) (hts _ kw_1301) (fun _ h9 => h9) rfl dX9_lend_75 (fun v75 hv75 hm75 => ?_)
            refine lv_iload hx hb dX9_lend_78 (lv_at hl 0 rfl) ?_
            refine lv_iload_n hx hb dX9_lend_80 rfl (lv_at hl 2 rfl) ?_
            refine ti_iast hx hb (aT0 hK) hT hS hv75 rfl rfl hv30_39l (by decide) (fun _ _ _ => ⟨_, _, rfl, by decide, by decide⟩) hx1_6p (fun _ _ => trivial) dX9_lend_81 (fun H locs hT hS oq81 he81 hk81 => ?_)
            refine lv_aload_n hx hb dX9_lend_82 rfl (lv_at hl 1 rfl) ?_
            refine ti_getE (ci := 9) (v := .ref v24) hx hb hts inlX9 hown hK ((hm24.call hk65 (pW_not ha0 rfl)).kept (oq81 _ (ne_r ha0 hv75 rfl))) rfl (by decide) (hts _ kw_20) (fun _ h9 => h9) dX9_lend_83 ?_
            refine ti_getE (ci := 7) (v := .ref v27) hx hb hts inlX7 hown hK ((hm27.call hk65 (pW_not hv24 rfl)).kept (oq81 _ (ne_r hv24 hv75 rfl))) rfl (by decide) (hts _ kw_1299) (fun _ h9 => h9) dX9_lend_86 ?_
            refine ti_getr hx hb hts inlX1 hown hK hT hv27 rfl rfl rfl 2 (by decide) (hts _ kw_1302) (fun _ h9 => h9) rfl dX9_lend_89 (fun v89 hv89 hm89 => ?_)
            refine lv_iload hx hb dX9_lend_92 (lv_at hl 0 rfl) ?_
            refine lv_iload_n hx hb dX9_lend_94 rfl (lv_at hl 3 rfl) ?_
            refine ti_iast hx hb (aT0 hK) hT hS hv89 rfl rfl hv30_39l (by decide) (fun _ _ _ => ⟨_, _, rfl, by decide, by decide⟩) hx2_6p (fun _ _ => trivial) dX9_lend_95 (fun H locs hT hS oq95 he95 hk95 => ?_)
            refine lv_aload_n hx hb dX9_lend_96 rfl (lv_at hl 1 rfl) ?_
            refine ti_getE (ci := 9) (v := .ref v24) hx hb hts inlX9 hown hK (((hm24.call hk65 (pW_not ha0 rfl)).kept (oq81 _ (ne_r ha0 hv75 rfl))).kept (oq95 _ (ne_r ha0 hv89 rfl))) rfl (by decide) (hts _ kw_20) (fun _ h9 => h9) dX9_lend_97 ?_
            refine ti_getE (ci := 7) (v := .ref v27) hx hb hts inlX7 hown hK (((hm27.call hk65 (pW_not hv24 rfl)).kept (oq81 _ (ne_r hv24 hv75 rfl))).kept (oq95 _ (ne_r hv24 hv89 rfl))) rfl (by decide) (hts _ kw_1299) (fun _ h9 => h9) dX9_lend_100 ?_
            refine ti_getr hx hb hts inlX1 hown hK hT hv27 rfl rfl rfl 3 (by decide) (hts _ kw_1303) (fun _ h9 => h9) rfl dX9_lend_103 (fun v103 hv103 hm103 => ?_)
            refine lv_iload hx hb dX9_lend_106 (lv_at hl 0 rfl) ?_
            refine lv_iload_n hx hb dX9_lend_108 rfl (lv_at hl 4 rfl) ?_
            refine ti_iast hx hb (aT0 hK) hT hS hv103 rfl rfl hv30_39l (by decide) (fun _ _ _ => ⟨_, _, rfl, by decide, by decide⟩) hx3_17l (fun _ _ => trivial) dX9_lend_109 (fun H locs hT hS oq109 he109 hk109 => ?_)
            refine lv_aload_n hx hb dX9_lend_110 rfl (lv_at hl 1 rfl) ?_
            refine ti_getE (ci := 9) (v := .ref v24) hx hb hts inlX9 hown hK ((((hm24.call hk65 (pW_not ha0 rfl)).kept (oq81 _ (ne_r ha0 hv75 rfl))).kept (oq95 _ (ne_r ha0 hv89 rfl))).kept (oq109 _ (ne_r ha0 hv103 rfl))) rfl (by decide) (hts _ kw_20) (fun _ h9 => h9) dX9_lend_111 ?_
            refine ti_getE (ci := 7) (v := .ref v27) hx hb hts inlX7 hown hK ((((hm27.call hk65 (pW_not hv24 rfl)).kept (oq81 _ (ne_r hv24 hv75 rfl))).kept (oq95 _ (ne_r hv24 hv89 rfl))).kept (oq109 _ (ne_r hv24 hv103 rfl))) rfl (by decide) (hts _ kw_1299) (fun _ h9 => h9) dX9_lend_114 ?_
            refine lv_iload hx hb dX9_lend_117 (lv_at hl 0 rfl) ?_
            refine lv_iconst (v := 1) hx hb dX9_lend_119 (by decide) ?_
            refine lv_iadd hx hb dX9_lend_120 ?_
            refine lv_topi (fun v120 e120 => ?_)
            have hv120 : iv v120 1 6 := by rw [e120]; exact iv_w (iv_add hv30_39l (iv_c (x := (1 : Int32)) (k := 1) (by decide)) (by decide)) (by decide)
            have s120 : v120.toInt = v30.toInt + 1 := by rw [e120, iv_addE hv30_39l (iv_c (x := (1 : Int32)) (k := 1) (by decide)) (by decide)]; rfl
            refine ti_put (ty := .int) hx hb hts inlX1 tyX1 tyX1_ok nmX1 hown hK hT hS hv27 rfl rfl rfl rfl 0 (by decide) (hts _ kw_1300) (fun _ h9 => h9) rfl rfl (by decide +kernel) rfl rfl ⟨v120, rfl, iv_w hv120 (by decide)⟩ (fun _ _ => trivial) dX9_lend_121 (fun H locs hT hS oq121 he121 hk121 => ?_)
            refine lv_aload_n hx hb dX9_lend_124 rfl (lv_at hl 1 rfl) ?_
            refine ti_getE (ci := 9) (v := .ref v24) hx hb hts inlX9 hown hK (((((hm24.call hk65 (pW_not ha0 rfl)).kept (oq81 _ (ne_r ha0 hv75 rfl))).kept (oq95 _ (ne_r ha0 hv89 rfl))).kept (oq109 _ (ne_r ha0 hv103 rfl))).kept (oq121 _ (ne_r ha0 hv27 rfl))) rfl (by decide) (hts _ kw_20) (fun _ h9 => h9) dX9_lend_125 ?_
            refine ti_getE (ci := 7) (v := .ref v27) hx hb hts inlX7 hown hK (((((hm27.call hk65 (pW_not hv24 rfl)).kept (oq81 _ (ne_r hv24 hv75 rfl))).kept (oq95 _ (ne_r hv24 hv89 rfl))).kept (oq109 _ (ne_r hv24 hv103 rfl))).kept (oq121 _ (ne_r hv24 hv27 rfl))) rfl (by decide) (hts _ kw_1299) (fun _ h9 => h9) dX9_lend_128 ?_
            refine ti_getE (ci := 1) (v := .int v120) hx hb hts inlX1 hown hK he121 rfl (by decide) (hts _ kw_1300) (fun _ h9 => h9) dX9_lend_131 ?_
            exact ret _ _ _ _ _ dX9_lend_134 (⟨hT, iv_w hv120 (by decide)⟩) hS
          · skip
            have f52 := i_eq c52
            have hv49_52l : iv v49 0 0 := iv_eql hv49 (iv_c (x := (0 : Int32)) (k := 0) (by decide)) c52 (by decide)
            refine lv_bipush (v := (-5)) hx hb dX9_lend_55 (by decide) ?_
            exact ret _ _ _ _ _ dX9_lend_57 (⟨hT, iv_w (iv_c (x := (-5 : Int32)) (k := (-5)) (by decide)) (by decide)⟩) hS
        · skip
          have kl6 : (6 : Int32).toInt = 6 := by decide
          have f39 := i_nlt c39
          have hv30_39r : iv v30 6 6 := iv_ler (iv_c (x := (6 : Int32)) (k := 6) (by decide)) hv30 (Int32.not_lt.mp c39) (by decide)
          refine lv_bipush (v := (-3)) hx hb dX9_lend_42 (by decide) ?_
          exact ret _ _ _ _ _ dX9_lend_44 (⟨hT, iv_w (iv_c (x := (-3 : Int32)) (k := (-3)) (by decide)) (by decide)⟩) hS
      · skip
        have kl30 : (30 : Int32).toInt = 30 := by decide
        have f17 := i_nle c17
        have hx3_17r : iv x3 31 2147483647 := iv_ltr (iv_c (x := (30 : Int32)) (k := 30) (by decide)) hx3_11r (Int32.not_le.mp c17) (by decide)
        refine lv_bipush (v := (-2)) hx hb dX9_lend_20 (by decide) ?_
        exact ret _ _ _ _ _ dX9_lend_22 (⟨hT, iv_w (iv_c (x := (-2 : Int32)) (k := (-2)) (by decide)) (by decide)⟩) hS
set_option maxHeartbeats 4000000 in
set_option maxRecDepth 100000 in
theorem t_X9_round (l : Launch) {D : va_G} {c0 : Nat → ClassId} {Y : Nat → Option Nat} {ν : Nat → Nat} {H : Heap} (hT : TI D vwCl (tysOf c0) (RTg ν) Y H) {a0 : Nat} (ha0 : Y a0 = some 9) {x1 : Int32} (hx1 : iv x1 (-2147483648) 2147483647) {x2 : Int32} (hx2 : iv x2 (-2147483648) 2147483647) : Met l yX9_round (wz yX9_round cX9_round 4 (some .int)) { frames := 4, cells := 0, slots := 0, locals := 128 } (TP D vwCl (tysOf c0) H [.ref a0, .int x1, .int x2]) (TQi (fun x H' => TI D vwCl (tysOf c0) (RTg ν) Y H' ∧ iv x (-2) 30) Y [4, 29]) 0 0 (pW Y [4, 29]) := by
  refine Met.ofW (cc := cX9_round) (maxL := 4) (ret := (some .int)) (by decide) rfl ?_
  intro p e s m args below meth c s₁ B hml hv
  obtain ⟨rfl, rfl, hK⟩ := hv
  have hx := B.exec
  have hb := B.bytes
  have hr := B.returns
  have hts : ∀ w ∈ wq, w.before _ s = true := fun w h => atoms_spec (ws := wz yX9_round cX9_round 4 (some .int)) B.pre w (List.mem_cons_of_mem _ h)
  have hown : s.vm.findClass RX9 = some m.cls := findClass_of_methodNamed B.named
  have hlocks := B.notSynchronized
  obtain ⟨R, hR⟩ : ∃ R : Room, R = ({ frames := 4, cells := 0, slots := 0, locals := 128 } : Room) := ⟨_, rfl⟩
  rw [show (headSpec (wz yX9_round cX9_round 4 (some .int)) { frames := 4, cells := 0, slots := 0, locals := 128 }).room = R from hR.symm]
  refine ti_mi hx hb hr hlocks (fun Q ret => ?_)
  have hl := lv_entry [.ref a0, .int x1, .int x2] (n := 4) (Nat.le_of_ble_eq_true rfl)
  rw [lg_entry_eq]
  generalize (lg_sl [.ref a0, .int x1, .int x2] ++ List.replicate (4 - (lg_sl [.ref a0, .int x1, .int x2]).length) Slot.unset).toArray = ls at hl ⊢
  have hl : lv_has ls 4 [(0, .ref a0), (1, .int x1), (2, .int x2)] := hl
  refine ti_gen (P := fun H => TI D vwCl (tysOf c0) (RTg ν) Y H) (Y := Y) (ws := [4, 29]) hT (fun H locs hT hS => ?_)
  refine lv_aload_n hx hb dX9_round_0 rfl (lv_at hl 0 rfl) ?_
  refine lv_iload_n hx hb dX9_round_1 rfl (lv_at hl 1 rfl) ?_
  refine lv_iload_n hx hb dX9_round_2 rfl (lv_at hl 2 rfl) ?_
  refine ti_calli (va_runV (As := [.int x1, .int x2]) (rest := []) ⟨hx, hb, hml, hown, hts⟩ (t_X9_arePair l hT ha0 (iv_w hx1 (by decide)) (iv_w hx2 (by decide))) (cwV 2 hts (good_V kw_529 kw_530 kw_531 kw_2 kw_532) rfl rfl rfl (by decide +kernel) ⟨by rw [hR]; decide, by rw [hR]; decide⟩) (ti_preV hK hT ha0 rfl rfl) rfl rfl hl.1 rfl (lv_room (Nat.le_of_ble_eq_true rfl)) dX9_round_3 ⟨Nat.zero_le _, Nat.zero_le _⟩) hS (pW_sub rfl) (fun v3 H1 locs hB hS _ hk3 => ?_)
  obtain ⟨hH, hv3, hp3⟩ := hB
  rw [hH] at hS ⊢
  refine lv_if_ne (tgt := 12) hx hb dX9_round_6 (by decide) (fun c6 => ?_) (fun c6 => ?_)
  · skip
    have kl0 : (0 : Int32).toInt = 0 := by decide
    have f6 := i_ne c6
    have hv3_6l : iv v3 1 1 := iv_nel hv3 (iv_c (x := (0 : Int32)) (k := 0) (by decide)) c6 (by decide)
    have hx1_6p : iv x1 0 7 := by have b0a := (hx1).1; have b0b := (hx1).2; exact ⟨by omega, by omega⟩
    have hx2_6p : iv x2 0 7 := by have b0a := (hx2).1; have b0b := (hx2).2; exact ⟨by omega, by omega⟩
    refine lv_iconst (v := 1) hx hb dX9_round_12 (by decide) ?_
    have J14 : ∀ (n : Nat) (j14_L3 : Int32) (H : Heap) (locs : List Loc) (ls : Array Slot), (31 - j14_L3.toInt).toNat < n → iv j14_L3 1 31 → TI D vwCl (tysOf c0) (RTg ν) Y H → va_S (pW Y [4, 29]) s.heap H locs → lv_has ls 4 [(0, .ref a0), (1, .int x1), (2, .int x2), (3, .int j14_L3)] → W p l e R s m ([.ref a0, .int x1, .int x2] : List Value).toArray below meth c H locs 0 0 Q (F0 m 14 ls []) := by
      intro n
      induction n with
      | zero => intro j14_L3 H locs ls hms; exact absurd hms (Nat.not_lt_zero _)
      | succ n ih14 =>
        intro j14_L3 H locs ls hms14 hj14_L3 hT hS hl
        refine lv_iload_n hx hb dX9_round_14 rfl (lv_at hl 3 rfl) ?_
        refine lv_bipush (v := 30) hx hb dX9_round_15 (by decide) ?_
        refine lv_icmp_gt (tgt := 67) hx hb dX9_round_17 (by decide) (fun c17 => ?_) (fun c17 => ?_)
        · skip
          have kl30 : (30 : Int32).toInt = 30 := by decide
          have f17 := i_lt c17
          have hj14_L3_17r : iv j14_L3 31 31 := iv_ltr (iv_c (x := (30 : Int32)) (k := 30) (by decide)) hj14_L3 c17 (by decide)
          refine lv_iconst (v := (-1)) hx hb dX9_round_67 (by decide) ?_
          exact ret _ _ _ _ _ dX9_round_68 (⟨hT, iv_w (iv_c (x := (-1 : Int32)) (k := (-1)) (by decide)) (by decide)⟩) hS
        · skip
          have kl30 : (30 : Int32).toInt = 30 := by decide
          have f17 := i_nlt c17
          have hj14_L3_17l : iv j14_L3 1 30 := iv_lel hj14_L3 (iv_c (x := (30 : Int32)) (k := 30) (by decide)) (Int32.not_lt.mp c17) (by decide)
          refine lv_aload_n hx hb dX9_round_20 rfl (lv_at hl 0 rfl) ?_
          refine lv_iload_n hx hb dX9_round_21 rfl (lv_at hl 1 rfl) ?_
          refine lv_iload_n hx hb dX9_round_22 rfl (lv_at hl 2 rfl) ?_
          refine lv_iload_n hx hb dX9_round_23 rfl (lv_at hl 3 rfl) ?_
          refine ti_calli (va_runV (As := [.int x1, .int x2, .int j14_L3]) (rest := []) ⟨hx, hb, hml, hown, hts⟩ (t_X9_canLend l hT ha0 (iv_w hx1_6p (by decide)) (iv_w hx2_6p (by decide)) (iv_w hj14_L3_17l (by decide))) (cwV 3 hts (good_V kw_1304 kw_1305 kw_1306 kw_2 kw_1307) rfl rfl rfl (by decide +kernel) ⟨by rw [hR]; decide, by rw [hR]; decide⟩) (ti_preV hK hT ha0 rfl rfl) rfl rfl hl.1 rfl (lv_room (Nat.le_of_ble_eq_true rfl)) dX9_round_24 ⟨Nat.zero_le _, Nat.zero_le _⟩) hS (pW_sub rfl) (fun v24 H1 locs hB hS _ hk24 => ?_)
          obtain ⟨hH, hv24⟩ := hB
          rw [hH] at hS ⊢
          refine lv_if_eq (tgt := 67) hx hb dX9_round_27 (by decide) (fun c27 => ?_) (fun c27 => ?_)
          · skip
            have f27 := i_eq c27
            have hv24_27l : iv v24 0 0 := iv_eql hv24 (iv_c (x := (0 : Int32)) (k := 0) (by decide)) c27 (by decide)
            refine lv_iconst (v := (-1)) hx hb dX9_round_67 (by decide) ?_
            exact ret _ _ _ _ _ dX9_round_68 (⟨hT, iv_w (iv_c (x := (-1 : Int32)) (k := (-1)) (by decide)) (by decide)⟩) hS
          · skip
            have f27 := i_ne c27
            have hv24_27l : iv v24 1 1 := iv_nel hv24 (iv_c (x := (0 : Int32)) (k := 0) (by decide)) c27 (by decide)
            refine lv_aload_n hx hb dX9_round_30 rfl (lv_at hl 0 rfl) ?_
            refine lv_iload_n hx hb dX9_round_31 rfl (lv_at hl 1 rfl) ?_
            refine lv_iload_n hx hb dX9_round_32 rfl (lv_at hl 2 rfl) ?_
            refine lv_iload_n hx hb dX9_round_33 rfl (lv_at hl 3 rfl) ?_
            refine ti_callv (va_runV (As := [.int x1, .int x2, .int j14_L3]) (rest := []) ⟨hx, hb, hml, hown, hts⟩ (t_X9_lookAfterHanding l hT ha0 (iv_w hx1_6p (by decide)) (iv_w hx2_6p (by decide)) (iv_w hj14_L3_17l (by decide))) (cwV 3 hts (good_V kw_1036 kw_1037 kw_1038 kw_2 kw_1039) rfl rfl rfl (by decide +kernel) ⟨by rw [hR]; decide, by rw [hR]; decide⟩) (ti_preV hK hT ha0 rfl rfl) rfl rfl hl.1 rfl (lv_room (Nat.le_of_ble_eq_true rfl)) dX9_round_34 ⟨Nat.zero_le _, Nat.zero_le _⟩) hS (pW_sub rfl) (fun H locs hB hS _ hk34 => ?_)
            have hT := hB
            refine lv_aload_n hx hb dX9_round_37 rfl (lv_at hl 0 rfl) ?_
            refine ti_getr hx hb hts inlX9 hown hK hT ha0 rfl rfl rfl 6 (by decide) (hts _ kw_30) (fun _ h9 => h9) rfl dX9_round_38 (fun v38 hv38 hm38 => ?_)
            refine lv_iload_n hx hb dX9_round_41 rfl (lv_at hl 1 rfl) ?_
            refine ti_calli (va_runV (As := [.int x1]) (rest := []) ⟨hx, hb, hml, hown, hts⟩ (t_X4_lossOf l hT hv38 (iv_w hx1_6p (by decide))) (cwV 1 hts (good_V kw_637 kw_638 kw_639 kw_29 kw_640) rfl rfl rfl (by decide +kernel) ⟨by rw [hR]; decide, by rw [hR]; decide⟩) (ti_preV hK hT hv38 rfl rfl) rfl rfl hl.1 rfl (lv_room (Nat.le_of_ble_eq_true rfl)) dX9_round_42 ⟨Nat.zero_le _, Nat.zero_le _⟩) hS (pW_sub rfl) (fun v42 H1 locs hB hS _ hk42 => ?_)
            have hH := hB
            rw [hH] at hS ⊢
            have J61 : ∀  (H : Heap) (locs : List Loc) (ls : Array Slot), TI D vwCl (tysOf c0) (RTg ν) Y H → va_S (pW Y [4, 29]) s.heap H locs → lv_has ls 4 [(0, .ref a0), (1, .int x1), (2, .int x2), (3, .int j14_L3)] → W p l e R s m ([.ref a0, .int x1, .int x2] : List Value).toArray below meth c H locs 0 0 Q (F0 m 61 ls []) := by
              intro  H locs ls  hT hS hl
              obtain ⟨v61, e61⟩ : ∃ y : Int32, y = j14_L3 + 1 := ⟨_, rfl⟩
              have hv61 : iv v61 2 31 := by rw [e61]; exact iv_w (iv_add hj14_L3_17l (iv_c (x := (1 : Int32)) (k := 1) (by decide)) (by decide)) (by decide)
              have s61 : v61.toInt = j14_L3.toInt + 1 := by rw [e61, iv_addE hj14_L3_17l (iv_c (x := (1 : Int32)) (k := 1) (by decide)) (by decide)]; rfl
              refine lv_iinc (v := v61) (lv' := [(3, .int v61), (0, .ref a0), (1, .int x1), (2, .int x2)]) hx hb dX9_round_61 hl (k := 3) rfl (by rw [e61]; rfl) (by decide) rfl (fun ls hl => ?_)
              refine lv_goto (tgt := 14) hx hb dX9_round_64 (by decide) ?_
              exact ih14 v61 _ _ _ (ms_up hms14 (by have := s61; omega) (iv_w (c := 2) (d := 31) hv61 (by decide)).2) (iv_w hv61 (by decide)) hT hS (lv_sub hl [1, 2, 3, 0] rfl)
            refine lv_if_ne (tgt := 61) hx hb dX9_round_45 (by decide) (fun c45 => ?_) (fun c45 => ?_)
            · skip
              have f45 := i_ne c45
              exact J61  _ _ _   hT hS (lv_sub hl [0, 1, 2, 3] rfl)
            · skip
              have f45 := i_eq c45
              have hv42_45l : iv v42 0 0 := iv_eql (iv_top v42) (iv_c (x := (0 : Int32)) (k := 0) (by decide)) c45 (by decide)
              refine lv_aload_n hx hb dX9_round_48 rfl (lv_at hl 0 rfl) ?_
              refine ti_getE (ci := 9) (v := .ref v38) hx hb hts inlX9 hown hK hm38 rfl (by decide) (hts _ kw_30) (fun _ h9 => h9) dX9_round_49 ?_
              refine lv_iload_n hx hb dX9_round_52 rfl (lv_at hl 2 rfl) ?_
              refine ti_calli (va_runV (As := [.int x2]) (rest := []) ⟨hx, hb, hml, hown, hts⟩ (t_X4_lossOf l hT hv38 (iv_w hx2_6p (by decide))) (cwV 1 hts (good_V kw_637 kw_638 kw_639 kw_29 kw_640) rfl rfl rfl (by decide +kernel) ⟨by rw [hR]; decide, by rw [hR]; decide⟩) (ti_preV hK hT hv38 rfl rfl) rfl rfl hl.1 rfl (lv_room (Nat.le_of_ble_eq_true rfl)) dX9_round_53 ⟨Nat.zero_le _, Nat.zero_le _⟩) hS (pW_sub rfl) (fun v53 H1 locs hB hS _ hk53 => ?_)
              have hH := hB
              rw [hH] at hS ⊢
              refine lv_if_ne (tgt := 61) hx hb dX9_round_56 (by decide) (fun c56 => ?_) (fun c56 => ?_)
              · skip
                have f56 := i_ne c56
                exact J61  _ _ _   hT hS (lv_sub hl [0, 1, 2, 3] rfl)
              · skip
                have f56 := i_eq c56
                have hv53_56l : iv v53 0 0 := iv_eql (iv_top v53) (iv_c (x := (0 : Int32)) (k := 0) (by decide)) c56 (by decide)
                refine lv_iload_n hx hb dX9_round_59 rfl (lv_at hl 3 rfl) ?_
                exact ret _ _ _ _ _ dX9_round_60 (⟨hT, iv_w hj14_L3_17l (by decide)⟩) hS
    refine lv_istore_n (lv' := [(3, .int (1 : Int32)), (0, .ref a0), (1, .int x1), (2, .int x2)]) hx hb dX9_round_13 rfl hl (by decide) rfl (fun ls hl => ?_)
    exact J14 _ (1 : Int32) _ _ _ (Nat.lt_succ_self _) (iv_w (iv_c (x := (1 : Int32)) (k := 1) (by decide)) (by decide)) hT hS (lv_sub hl [1, 2, 3, 0] rfl)
  · skip
    have kl0 : (0 : Int32).toInt = 0 := by decide
    have f6 := i_eq c6
    have hv3_6l : iv v3 0 0 := iv_eql hv3 (iv_c (x := (0 : Int32)) (k := 0) (by decide)) c6 (by decide)
    refine lv_bipush (v := (-2)) hx hb dX9_round_9 (by decide) ?_
    exact ret _ _ _ _ _ dX9_round_11 (⟨hT, iv_w (iv_c (x := (-2 : Int32)) (k := (-2)) (by decide)) (by decide)⟩) hS
set_option maxHeartbeats 4000000 in
set_option maxRecDepth 100000 in
theorem t_X9_canHide (l : Launch) {D : va_G} {c0 : Nat → ClassId} {Y : Nat → Option Nat} {ν : Nat → Nat} {H : Heap} (hT : TI D vwCl (tysOf c0) (RTg ν) Y H) {a0 : Nat} (ha0 : Y a0 = some 9) {x1 : Int32} (hx1 : iv x1 (-2147483648) 2147483647) {x2 : Int32} (hx2 : iv x2 (-2147483648) 2147483647) : Met l yX9_canHide (wz yX9_canHide cX9_canHide 3 (some .boolean)) { frames := 1, cells := 0, slots := 0, locals := 22 } (TP D vwCl (tysOf c0) H [.ref a0, .int x1, .int x2]) (TQi (fun x H' => H' = H ∧ iv x 0 1 ∧ ((x.toInt = 0 ∨ (0 ≤ x1.toInt ∧ x1.toInt ≤ 7)))) Y []) 0 0 (pW Y []) := by
  refine Met.ofW (cc := cX9_canHide) (maxL := 3) (ret := (some .boolean)) (by decide) rfl ?_
  intro p e s m args below meth c s₁ B hml hv
  obtain ⟨rfl, rfl, hK⟩ := hv
  have hx := B.exec
  have hb := B.bytes
  have hr := B.returns
  have hts : ∀ w ∈ wq, w.before _ s = true := fun w h => atoms_spec (ws := wz yX9_canHide cX9_canHide 3 (some .boolean)) B.pre w (List.mem_cons_of_mem _ h)
  have hown : s.vm.findClass RX9 = some m.cls := findClass_of_methodNamed B.named
  have hlocks := B.notSynchronized
  obtain ⟨R, hR⟩ : ∃ R : Room, R = ({ frames := 1, cells := 0, slots := 0, locals := 22 } : Room) := ⟨_, rfl⟩
  rw [show (headSpec (wz yX9_canHide cX9_canHide 3 (some .boolean)) { frames := 1, cells := 0, slots := 0, locals := 22 }).room = R from hR.symm]
  refine ti_mz hx hb hr hlocks (fun Q ret => ?_)
  have hl := lv_entry [.ref a0, .int x1, .int x2] (n := 3) (Nat.le_of_ble_eq_true rfl)
  rw [lg_entry_eq]
  generalize (lg_sl [.ref a0, .int x1, .int x2] ++ List.replicate (3 - (lg_sl [.ref a0, .int x1, .int x2]).length) Slot.unset).toArray = ls at hl ⊢
  have hl : lv_has ls 3 [(0, .ref a0), (1, .int x1), (2, .int x2)] := hl
  have hS : va_S (pW Y []) s.heap s.heap [] := va_S.rf
  refine lv_aload_n hx hb dX9_canHide_0 rfl (lv_at hl 0 rfl) ?_
  refine lv_iload_n hx hb dX9_canHide_1 rfl (lv_at hl 1 rfl) ?_
  refine lv_i2l hx hb dX9_canHide_2 rfl ?_
  refine lv_topl (fun v2 e2 => ?_)
  have hv2 : jv v2 (-2147483648) 2147483647 := by rw [e2]; exact jv_i hx1
  have t2 : v2.toInt = x1.toInt := by rw [e2]; exact jv_e _
  refine ti_calli (va_runV (As := [.long v2]) (rest := []) ⟨hx, hb, hml, hown, hts⟩ (t_X9_isPerson l hT ha0 (jv_w hv2 (by decide))) (cwV 1 hts (good_V kw_476 kw_477 kw_478 kw_2 kw_479) rfl rfl rfl (by decide +kernel) ⟨by rw [hR]; decide, by rw [hR]; decide⟩) (ti_preV hK hT ha0 rfl rfl) rfl rfl hl.1 rfl (lv_room (Nat.le_of_ble_eq_true rfl)) dX9_canHide_3 ⟨Nat.zero_le _, Nat.zero_le _⟩) hS (pW_sub rfl) (fun v3 H1 locs hB hS _ hk3 => ?_)
  obtain ⟨hH, hv3, hp3⟩ := hB
  rw [hH] at hS ⊢
  refine lv_if_eq (tgt := 33) hx hb dX9_canHide_6 (by decide) (fun c6 => ?_) (fun c6 => ?_)
  · skip
    have kl0 : (0 : Int32).toInt = 0 := by decide
    have f6 := i_eq c6
    have hv3_6l : iv v3 0 0 := iv_eql hv3 (iv_c (x := (0 : Int32)) (k := 0) (by decide)) c6 (by decide)
    refine lv_iconst (v := 0) hx hb dX9_canHide_33 (by decide) ?_
    exact ret _ _ _ _ _ dX9_canHide_34 (iv_w (iv_c (x := (0 : Int32)) (k := 0) (by decide)) (by decide)) (⟨rfl, iv_w (iv_c (x := (0 : Int32)) (k := 0) (by decide)) (by decide), by have b0a := (hx1).1; have b0b := (hx1).2; have b1a := (hx2).1; have b1b := (hx2).2; have b2a := (hv2).1; have b2b := (hv2).2; have b3a := (hv3_6l).1; have b3b := (hv3_6l).2; omega⟩) hS
  · skip
    have kl0 : (0 : Int32).toInt = 0 := by decide
    have f6 := i_ne c6
    have hv3_6l : iv v3 1 1 := iv_nel hv3 (iv_c (x := (0 : Int32)) (k := 0) (by decide)) c6 (by decide)
    have hv2_6p : jv v2 0 7 := by have b0a := (hv2).1; have b0b := (hv2).2; exact ⟨by omega, by omega⟩
    have hx1_6p : iv x1 0 7 := by have := t2; have b0a := (hv2_6p).1; have b0b := (hv2_6p).2; have b1a := (hx1).1; have b1b := (hx1).2; exact ⟨by omega, by omega⟩
    refine lv_iload_n hx hb dX9_canHide_9 rfl (lv_at hl 2 rfl) ?_
    refine lv_if_lt (tgt := 33) hx hb dX9_canHide_10 (by decide) (fun c10 => ?_) (fun c10 => ?_)
    · skip
      have f10 := i_lt c10
      have hx2_10l : iv x2 (-2147483648) (-1) := iv_ltl hx2 (iv_c (x := (0 : Int32)) (k := 0) (by decide)) c10 (by decide)
      refine lv_iconst (v := 0) hx hb dX9_canHide_33 (by decide) ?_
      exact ret _ _ _ _ _ dX9_canHide_34 (iv_w (iv_c (x := (0 : Int32)) (k := 0) (by decide)) (by decide)) (⟨rfl, iv_w (iv_c (x := (0 : Int32)) (k := 0) (by decide)) (by decide), by have b0a := (hx1_6p).1; have b0b := (hx1_6p).2; have b1a := (hx2_10l).1; have b1b := (hx2_10l).2; have b2a := (hv2_6p).1; have b2b := (hv2_6p).2; have b3a := (hv3_6l).1; have b3b := (hv3_6l).2; omega⟩) hS
    · skip
      have f10 := i_nlt c10
      have hx2_10r : iv x2 0 2147483647 := iv_ler (iv_c (x := (0 : Int32)) (k := 0) (by decide)) hx2 (Int32.not_lt.mp c10) (by decide)
      refine lv_iload_n hx hb dX9_canHide_13 rfl (lv_at hl 2 rfl) ?_
      refine lv_aload_n hx hb dX9_canHide_14 rfl (lv_at hl 0 rfl) ?_
      refine ti_getr hx hb hts inlX9 hown hK hT ha0 rfl rfl rfl 1 (by decide) (hts _ kw_20) (fun _ h9 => h9) rfl dX9_canHide_15 (fun v15 hv15 hm15 => ?_)
      refine ti_getr hx hb hts inlX7 hown hK hT hv15 rfl rfl rfl 8 (by decide) (hts _ kw_471) (fun _ h9 => h9) rfl dX9_canHide_18 (fun v18 hv18 hm18 => ?_)
      refine lv_iload_n hx hb dX9_canHide_21 rfl (lv_at hl 1 rfl) ?_
      refine ti_aald hx hb (aT6 hK) hT hv18 rfl hx1_6p (by decide) (fun _ _ _ => rfl) dX9_canHide_22 (fun v22 hv22 => ?_)
      refine ti_geti hx hb hts inlX3 hown hK hT hv22 rfl rfl rfl 0 (by decide) (hts _ kw_472) (fun _ h9 => h9) rfl dX9_canHide_23 (fun v23 hv23 hm23 => ?_)
      refine lv_icmp_gt (tgt := 33) hx hb dX9_canHide_26 (by decide) (fun c26 => ?_) (fun c26 => ?_)
      · skip
        have f26 := i_lt c26
        refine lv_iconst (v := 0) hx hb dX9_canHide_33 (by decide) ?_
        exact ret _ _ _ _ _ dX9_canHide_34 (iv_w (iv_c (x := (0 : Int32)) (k := 0) (by decide)) (by decide)) (⟨rfl, iv_w (iv_c (x := (0 : Int32)) (k := 0) (by decide)) (by decide), by have b0a := (hx1_6p).1; have b0b := (hx1_6p).2; have b1a := (hx2_10r).1; have b1b := (hx2_10r).2; have b2a := (hv2_6p).1; have b2b := (hv2_6p).2; have b3a := (hv3_6l).1; have b3b := (hv3_6l).2; have b4a := (hv23).1; have b4b := (hv23).2; omega⟩) hS
      · skip
        have f26 := i_nlt c26
        have hx2_26l : iv x2 0 100000 := iv_lel hx2_10r hv23 (Int32.not_lt.mp c26) (by decide)
        have hv23_26r : iv v23 0 100000 := iv_ler hx2_26l hv23 (Int32.not_lt.mp c26) (by decide)
        refine lv_iconst (v := 1) hx hb dX9_canHide_29 (by decide) ?_
        refine lv_goto (tgt := 34) hx hb dX9_canHide_30 (by decide) ?_
        have kl1 : (1 : Int32).toInt = 1 := by decide
        exact ret _ _ _ _ _ dX9_canHide_34 (iv_w (iv_c (x := (1 : Int32)) (k := 1) (by decide)) (by decide)) (⟨rfl, iv_w (iv_c (x := (1 : Int32)) (k := 1) (by decide)) (by decide), by have b0a := (hx1_6p).1; have b0b := (hx1_6p).2; have b1a := (hx2_26l).1; have b1b := (hx2_26l).2; have b2a := (hv2_6p).1; have b2b := (hv2_6p).2; have b3a := (hv3_6l).1; have b3b := (hv3_6l).2; have b4a := (hv23_26r).1; have b4b := (hv23_26r).2; omega⟩) hS
set_option maxHeartbeats 4000000 in
set_option maxRecDepth 100000 in
theorem t_X9_mixByFound (l : Launch) {D : va_G} {c0 : Nat → ClassId} {Y : Nat → Option Nat} {ν : Nat → Nat} {H : Heap} (hT : TI D vwCl (tysOf c0) (RTg ν) Y H) {x0 : Int32} (hx0 : iv x0 (-2147483648) 2147483647) {x1 : Int32} (hx1 : iv x1 (-2147483648) 2147483647) {x2 : Int32} (hx2 : iv x2 (-2147483648) 2147483647) : Met l yX9_mixByFound (wz yX9_mixByFound cX9_mixByFound 3 (some .int)) { frames := 0, cells := 0, slots := 0, locals := 0 } (TP D vwCl (tysOf c0) H [.int x0, .int x1, .int x2]) (TQi (fun x H' => H' = H) Y []) 0 0 (pW Y []) := by
  refine Met.ofW (cc := cX9_mixByFound) (maxL := 3) (ret := (some .int)) (by decide) rfl ?_
  intro p e s m args below meth c s₁ B hml hv
  obtain ⟨rfl, rfl, hK⟩ := hv
  have hx := B.exec
  have hb := B.bytes
  have hr := B.returns
  have hts : ∀ w ∈ wq, w.before _ s = true := fun w h => atoms_spec (ws := wz yX9_mixByFound cX9_mixByFound 3 (some .int)) B.pre w (List.mem_cons_of_mem _ h)
  have hown : s.vm.findClass RX9 = some m.cls := findClass_of_methodNamed B.named
  have hlocks := B.notSynchronized
  obtain ⟨R, hR⟩ : ∃ R : Room, R = ({ frames := 0, cells := 0, slots := 0, locals := 0 } : Room) := ⟨_, rfl⟩
  rw [show (headSpec (wz yX9_mixByFound cX9_mixByFound 3 (some .int)) { frames := 0, cells := 0, slots := 0, locals := 0 }).room = R from hR.symm]
  refine ti_mi hx hb hr hlocks (fun Q ret => ?_)
  have hl := lv_entry [.int x0, .int x1, .int x2] (n := 3) (Nat.le_of_ble_eq_true rfl)
  rw [lg_entry_eq]
  generalize (lg_sl [.int x0, .int x1, .int x2] ++ List.replicate (3 - (lg_sl [.int x0, .int x1, .int x2]).length) Slot.unset).toArray = ls at hl ⊢
  have hl : lv_has ls 3 [(0, .int x0), (1, .int x1), (2, .int x2)] := hl
  have hS : va_S (pW Y []) s.heap s.heap [] := va_S.rf
  refine lv_iload_n hx hb dX9_mixByFound_0 rfl (lv_at hl 0 rfl) ?_
  refine lv_bipush (v := 100) hx hb dX9_mixByFound_1 (by decide) ?_
  refine lv_iload_n hx hb dX9_mixByFound_3 rfl (lv_at hl 2 rfl) ?_
  refine lv_isub hx hb dX9_mixByFound_4 ?_
  refine lv_topi (fun v4 e4 => ?_)
  have hv4 : iv v4 (-2147483648) 2147483647 := iv_top _
  refine lv_imul hx hb dX9_mixByFound_5 ?_
  refine lv_topi (fun v5 e5 => ?_)
  have hv5 : iv v5 (-2147483648) 2147483647 := iv_top _
  refine lv_iload_n hx hb dX9_mixByFound_6 rfl (lv_at hl 1 rfl) ?_
  refine lv_iload_n hx hb dX9_mixByFound_7 rfl (lv_at hl 2 rfl) ?_
  refine lv_imul hx hb dX9_mixByFound_8 ?_
  refine lv_topi (fun v8 e8 => ?_)
  have hv8 : iv v8 (-2147483648) 2147483647 := iv_top _
  refine lv_iadd hx hb dX9_mixByFound_9 ?_
  refine lv_topi (fun v9 e9 => ?_)
  have hv9 : iv v9 (-2147483648) 2147483647 := iv_top _
  refine lv_bipush (v := 100) hx hb dX9_mixByFound_10 (by decide) ?_
  refine lv_idiv hx hb dX9_mixByFound_12 (iv_ne0 (iv_c (x := (100 : Int32)) (k := 100) (by decide)) (by decide)) ?_
  refine lv_topi (fun v12 e12 => ?_)
  have hv12 : iv v12 (-2147483648) 2147483647 := by rw [e12]; exact iv_div hv9 (iv_c (x := (100 : Int32)) (k := 100) (by decide)) (by decide)
  exact ret _ _ _ _ _ dX9_mixByFound_13 (rfl) hS
set_option maxHeartbeats 4000000 in
set_option maxRecDepth 100000 in
theorem t_X9_hides (l : Launch) {D : va_G} {c0 : Nat → ClassId} {Y : Nat → Option Nat} {ν : Nat → Nat} {H : Heap} (hT : TI D vwCl (tysOf c0) (RTg ν) Y H) {a0 : Nat} (ha0 : Y a0 = some 9) {x1 : Int32} (hx1 : iv x1 (-2147483648) 2147483647) {x2 : Int32} (hx2 : iv x2 (-2147483648) 2147483647) : Met l yX9_hides (wz yX9_hides cX9_hides 6 (some .int)) { frames := 4, cells := 0, slots := 0, locals := 109 } (TP D vwCl (tysOf c0) H [.ref a0, .int x1, .int x2]) (TQi (fun x H' => TI D vwCl (tysOf c0) (RTg ν) Y H') Y [2, 4, 29]) 0 0 (pW Y [2, 4, 29]) := by
  refine Met.ofW (cc := cX9_hides) (maxL := 6) (ret := (some .int)) (by decide) rfl ?_
  intro p e s m args below meth c s₁ B hml hv
  obtain ⟨rfl, rfl, hK⟩ := hv
  have hx := B.exec
  have hb := B.bytes
  have hr := B.returns
  have hts : ∀ w ∈ wq, w.before _ s = true := fun w h => atoms_spec (ws := wz yX9_hides cX9_hides 6 (some .int)) B.pre w (List.mem_cons_of_mem _ h)
  have hown : s.vm.findClass RX9 = some m.cls := findClass_of_methodNamed B.named
  have hlocks := B.notSynchronized
  obtain ⟨R, hR⟩ : ∃ R : Room, R = ({ frames := 4, cells := 0, slots := 0, locals := 109 } : Room) := ⟨_, rfl⟩
  rw [show (headSpec (wz yX9_hides cX9_hides 6 (some .int)) { frames := 4, cells := 0, slots := 0, locals := 109 }).room = R from hR.symm]
  refine ti_mi hx hb hr hlocks (fun Q ret => ?_)
  have hl := lv_entry [.ref a0, .int x1, .int x2] (n := 6) (Nat.le_of_ble_eq_true rfl)
  rw [lg_entry_eq]
  generalize (lg_sl [.ref a0, .int x1, .int x2] ++ List.replicate (6 - (lg_sl [.ref a0, .int x1, .int x2]).length) Slot.unset).toArray = ls at hl ⊢
  have hl : lv_has ls 6 [(0, .ref a0), (1, .int x1), (2, .int x2)] := hl
  refine ti_gen (P := fun H => TI D vwCl (tysOf c0) (RTg ν) Y H) (Y := Y) (ws := [2, 4, 29]) hT (fun H locs hT hS => ?_)
  refine lv_aload_n hx hb dX9_hides_0 rfl (lv_at hl 0 rfl) ?_
  refine lv_iload_n hx hb dX9_hides_1 rfl (lv_at hl 1 rfl) ?_
  refine lv_iload_n hx hb dX9_hides_2 rfl (lv_at hl 2 rfl) ?_
  refine ti_calli (va_runV (As := [.int x1, .int x2]) (rest := []) ⟨hx, hb, hml, hown, hts⟩ (t_X9_canHide l hT ha0 (iv_w hx1 (by decide)) (iv_w hx2 (by decide))) (cwV 2 hts (good_V kw_1330 kw_1331 kw_1332 kw_2 kw_1333) rfl rfl rfl (by decide +kernel) ⟨by rw [hR]; decide, by rw [hR]; decide⟩) (ti_preV hK hT ha0 rfl rfl) rfl rfl hl.1 rfl (lv_room (Nat.le_of_ble_eq_true rfl)) dX9_hides_3 ⟨Nat.zero_le _, Nat.zero_le _⟩) hS (pW_sub rfl) (fun v3 H1 locs hB hS _ hk3 => ?_)
  obtain ⟨hH, hv3, hp3⟩ := hB
  rw [hH] at hS ⊢
  refine lv_if_ne (tgt := 12) hx hb dX9_hides_6 (by decide) (fun c6 => ?_) (fun c6 => ?_)
  · skip
    have kl0 : (0 : Int32).toInt = 0 := by decide
    have f6 := i_ne c6
    have hv3_6l : iv v3 1 1 := iv_nel hv3 (iv_c (x := (0 : Int32)) (k := 0) (by decide)) c6 (by decide)
    have hx1_6p : iv x1 0 7 := by have b0a := (hx1).1; have b0b := (hx1).2; exact ⟨by omega, by omega⟩
    refine lv_aload_n hx hb dX9_hides_12 rfl (lv_at hl 0 rfl) ?_
    refine ti_getr hx hb hts inlX9 hown hK hT ha0 rfl rfl rfl 1 (by decide) (hts _ kw_20) (fun _ h9 => h9) rfl dX9_hides_13 (fun v13 hv13 hm13 => ?_)
    refine ti_getr hx hb hts inlX7 hown hK hT hv13 rfl rfl rfl 8 (by decide) (hts _ kw_471) (fun _ h9 => h9) rfl dX9_hides_16 (fun v16 hv16 hm16 => ?_)
    refine lv_iload_n hx hb dX9_hides_19 rfl (lv_at hl 1 rfl) ?_
    refine ti_aald hx hb (aT6 hK) hT hv16 rfl hx1_6p (by decide) (fun _ _ _ => rfl) dX9_hides_20 (fun v20 hv20 => ?_)
    refine ti_geti hx hb hts inlX3 hown hK hT hv20 rfl rfl rfl 0 (by decide) (hts _ kw_472) (fun _ h9 => h9) rfl dX9_hides_21 (fun v21 hv21 hm21 => ?_)
    refine lv_istore_n (lv' := [(3, .int v21), (0, .ref a0), (1, .int x1), (2, .int x2)]) hx hb dX9_hides_24 rfl hl (by decide) rfl (fun ls hl => ?_)
    refine lv_aload_n hx hb dX9_hides_25 rfl (lv_at hl 1 rfl) ?_
    refine ti_getr hx hb hts inlX9 hown hK hT ha0 rfl rfl rfl 7 (by decide) (hts _ kw_34) (fun _ h9 => h9) rfl dX9_hides_26 (fun v26 hv26 hm26 => ?_)
    refine lv_aload_n hx hb dX9_hides_29 rfl (lv_at hl 1 rfl) ?_
    refine ti_getE (ci := 9) (v := .ref v13) hx hb hts inlX9 hown hK hm13 rfl (by decide) (hts _ kw_20) (fun _ h9 => h9) dX9_hides_30 ?_
    refine lv_iload_n hx hb dX9_hides_33 rfl (lv_at hl 2 rfl) ?_
    refine lv_iconst (v := 0) hx hb dX9_hides_34 (by decide) ?_
    refine lv_iconst (v := 1) hx hb dX9_hides_35 (by decide) ?_
    refine ti_callv (va_runV (As := [.ref v13, .int x1, .int (0 : Int32), .int (1 : Int32)]) (rest := []) ⟨hx, hb, hml, hown, hts⟩ (t_X2_see l hT hv26 hv13 (iv_w hx1_6p (by decide)) (iv_w (iv_c (x := (0 : Int32)) (k := 0) (by decide)) (by decide)) (iv_w (iv_c (x := (1 : Int32)) (k := 1) (by decide)) (by decide))) (cwV 4 hts (good_V kw_1004 kw_867 kw_868 kw_33 kw_869) rfl rfl rfl (by decide +kernel) ⟨by rw [hR]; decide, by rw [hR]; decide⟩) (ti_preV hK hT hv26 rfl rfl) rfl rfl hl.1 rfl (lv_room (Nat.le_of_ble_eq_true rfl)) dX9_hides_36 ⟨Nat.zero_le _, Nat.zero_le _⟩) hS (pW_sub rfl) (fun H locs hB hS _ hk36 => ?_)
    have hT := hB
    refine lv_aload_n hx hb dX9_hides_39 rfl (lv_at hl 1 rfl) ?_
    refine ti_getE (ci := 9) (v := .ref v26) hx hb hts inlX9 hown hK (hm26.call hk36 (pW_not ha0 rfl)) rfl (by decide) (hts _ kw_34) (fun _ h9 => h9) dX9_hides_40 ?_
    refine lv_aload_n hx hb dX9_hides_43 rfl (lv_at hl 1 rfl) ?_
    refine ti_getE (ci := 9) (v := .ref v13) hx hb hts inlX9 hown hK (hm13.call hk36 (pW_not ha0 rfl)) rfl (by decide) (hts _ kw_20) (fun _ h9 => h9) dX9_hides_44 ?_
    refine lv_iload_n hx hb dX9_hides_47 rfl (lv_at hl 0 rfl) ?_
    refine lv_iload_n hx hb dX9_hides_48 rfl (lv_at hl 3 rfl) ?_
    refine ti_calli (va_runV (As := [.ref v13, .int v21, .int x2]) (rest := []) ⟨hx, hb, hml, hown, hts⟩ (t_X2_worthOfHolding l hT hv26 hv13 (iv_w hv21 (by decide)) (iv_w hx2 (by decide))) (cwV 3 hts (good_V kw_1334 kw_1335 kw_1336 kw_33 kw_1337) rfl rfl rfl (by decide +kernel) ⟨by rw [hR]; decide, by rw [hR]; decide⟩) (ti_preV hK hT hv26 rfl rfl) rfl rfl hl.1 rfl (lv_room (Nat.le_of_ble_eq_true rfl)) dX9_hides_49 ⟨Nat.zero_le _, Nat.zero_le _⟩) hS (pW_sub rfl) (fun v49 H locs hB hS _ hk49 => ?_)
    have hT := hB
    refine lv_istore (lv' := [(4, .int v49), (3, .int v21), (0, .ref a0), (1, .int x1), (2, .int x2)]) hx hb dX9_hides_52 hl (by decide) rfl (fun ls hl => ?_)
    refine lv_aload_n hx hb dX9_hides_54 rfl (lv_at hl 2 rfl) ?_
    refine ti_getE (ci := 9) (v := .ref v26) hx hb hts inlX9 hown hK ((hm26.call hk36 (pW_not ha0 rfl)).call hk49 (pW_not ha0 rfl)) rfl (by decide) (hts _ kw_34) (fun _ h9 => h9) dX9_hides_55 ?_
    refine lv_aload_n hx hb dX9_hides_58 rfl (lv_at hl 2 rfl) ?_
    refine ti_getE (ci := 9) (v := .ref v13) hx hb hts inlX9 hown hK ((hm13.call hk36 (pW_not ha0 rfl)).call hk49 (pW_not ha0 rfl)) rfl (by decide) (hts _ kw_20) (fun _ h9 => h9) dX9_hides_59 ?_
    refine lv_iload_n hx hb dX9_hides_62 rfl (lv_at hl 1 rfl) ?_
    refine lv_iload_n hx hb dX9_hides_63 rfl (lv_at hl 4 rfl) ?_
    refine lv_isub hx hb dX9_hides_64 ?_
    refine lv_topi (fun v64 e64 => ?_)
    have hv64 : iv v64 (-2147483648) 2147483647 := iv_top _
    refine lv_iconst (v := 0) hx hb dX9_hides_65 (by decide) ?_
    refine ti_calli (va_runV (As := [.ref v13, .int v64, .int (0 : Int32)]) (rest := []) ⟨hx, hb, hml, hown, hts⟩ (t_X2_worthOfHolding l hT hv26 hv13 (iv_w hv64 (by decide)) (iv_w (iv_c (x := (0 : Int32)) (k := 0) (by decide)) (by decide))) (cwV 3 hts (good_V kw_1334 kw_1335 kw_1336 kw_33 kw_1337) rfl rfl rfl (by decide +kernel) ⟨by rw [hR]; decide, by rw [hR]; decide⟩) (ti_preV hK hT hv26 rfl rfl) rfl rfl hl.1 rfl (lv_room (Nat.le_of_ble_eq_true rfl)) dX9_hides_66 ⟨Nat.zero_le _, Nat.zero_le _⟩) hS (pW_sub rfl) (fun v66 H locs hB hS _ hk66 => ?_)
    have hT := hB
    refine lv_istore (lv' := [(5, .int v66), (4, .int v49), (3, .int v21), (0, .ref a0), (1, .int x1), (2, .int x2)]) hx hb dX9_hides_69 hl (by decide) rfl (fun ls hl => ?_)
    refine lv_iload hx hb dX9_hides_71 (lv_at hl 1 rfl) ?_
    refine lv_iload hx hb dX9_hides_73 (lv_at hl 0 rfl) ?_
    refine lv_aload_n hx hb dX9_hides_75 rfl (lv_at hl 3 rfl) ?_
    refine ti_getE (ci := 9) (v := .ref v13) hx hb hts inlX9 hown hK (((hm13.call hk36 (pW_not ha0 rfl)).call hk49 (pW_not ha0 rfl)).call hk66 (pW_not ha0 rfl)) rfl (by decide) (hts _ kw_20) (fun _ h9 => h9) dX9_hides_76 ?_
    refine ti_getr hx hb hts inlX7 hown hK hT hv13 rfl rfl rfl 6 (by decide) (hts _ kw_575) (fun _ h9 => h9) rfl dX9_hides_79 (fun v79 hv79 hm79 => ?_)
    refine ti_geti hx hb hts inlX0 hown hK hT hv79 rfl rfl rfl 4 (by decide) (hts _ kw_1329) (fun _ h9 => h9) rfl dX9_hides_82 (fun v82 hv82 hm82 => ?_)
    refine ti_calli (va_runS (As := [.int v49, .int v66, .int v82]) (rest := []) ⟨hx, hb, hml, hown, hts⟩ (t_X9_mixByFound l hT (iv_w (iv_top v49) (by decide)) (iv_w (iv_top v66) (by decide)) (iv_w hv82 (by decide))) (cwS 3 hts (good_S kw_1338 kw_1339 kw_2 kw_1340) rfl rfl rfl (by decide +kernel) ⟨by rw [hR]; decide, by rw [hR]; decide⟩) (ti_preS hK) rfl rfl hl.1 rfl (lv_room (Nat.le_of_ble_eq_true rfl)) dX9_hides_85 ⟨Nat.zero_le _, Nat.zero_le _⟩) hS (pW_sub rfl) (fun v85 H1 locs hB hS _ hk85 => ?_)
    have hH := hB
    rw [hH] at hS ⊢
    exact ret _ _ _ _ _ dX9_hides_88 (hT) hS
  · skip
    have kl0 : (0 : Int32).toInt = 0 := by decide
    have f6 := i_eq c6
    have hv3_6l : iv v3 0 0 := iv_eql hv3 (iv_c (x := (0 : Int32)) (k := 0) (by decide)) c6 (by decide)
    refine lv_ldc (v := (-2000000000)) hx hb hown (hts _ kw_1003) dX9_hides_9 ?_
    exact ret _ _ _ _ _ dX9_hides_11 (hT) hS
set_option maxHeartbeats 4000000 in
set_option maxRecDepth 100000 in
theorem t_X9_edge (l : Launch) {D : va_G} {c0 : Nat → ClassId} {Y : Nat → Option Nat} {ν : Nat → Nat} {H : Heap} (hT : TI D vwCl (tysOf c0) (RTg ν) Y H) {a0 : Nat} (ha0 : Y a0 = some 9) {x1 : Int32} (hx1 : iv x1 (-2147483648) 2147483647) {x2 : Int32} (hx2 : iv x2 (-2147483648) 2147483647) : Met l yX9_edge (wz yX9_edge cX9_edge 8 (some .int)) { frames := 4, cells := 0, slots := 0, locals := 109 } (TP D vwCl (tysOf c0) H [.ref a0, .int x1, .int x2]) (TQi (fun x H' => TI D vwCl (tysOf c0) (RTg ν) Y H' ∧ iv x (-2) 100) Y [2, 4, 29]) 0 0 (pW Y [2, 4, 29]) := by
  refine Met.ofW (cc := cX9_edge) (maxL := 8) (ret := (some .int)) (by decide) rfl ?_
  intro p e s m args below meth c s₁ B hml hv
  obtain ⟨rfl, rfl, hK⟩ := hv
  have hx := B.exec
  have hb := B.bytes
  have hr := B.returns
  have hts : ∀ w ∈ wq, w.before _ s = true := fun w h => atoms_spec (ws := wz yX9_edge cX9_edge 8 (some .int)) B.pre w (List.mem_cons_of_mem _ h)
  have hown : s.vm.findClass RX9 = some m.cls := findClass_of_methodNamed B.named
  have hlocks := B.notSynchronized
  obtain ⟨R, hR⟩ : ∃ R : Room, R = ({ frames := 4, cells := 0, slots := 0, locals := 109 } : Room) := ⟨_, rfl⟩
  rw [show (headSpec (wz yX9_edge cX9_edge 8 (some .int)) { frames := 4, cells := 0, slots := 0, locals := 109 }).room = R from hR.symm]
  refine ti_mi hx hb hr hlocks (fun Q ret => ?_)
  have hl := lv_entry [.ref a0, .int x1, .int x2] (n := 8) (Nat.le_of_ble_eq_true rfl)
  rw [lg_entry_eq]
  generalize (lg_sl [.ref a0, .int x1, .int x2] ++ List.replicate (8 - (lg_sl [.ref a0, .int x1, .int x2]).length) Slot.unset).toArray = ls at hl ⊢
  have hl : lv_has ls 8 [(0, .ref a0), (1, .int x1), (2, .int x2)] := hl
  refine ti_gen (P := fun H => TI D vwCl (tysOf c0) (RTg ν) Y H) (Y := Y) (ws := [2, 4, 29]) hT (fun H locs hT hS => ?_)
  refine lv_aload_n hx hb dX9_edge_0 rfl (lv_at hl 0 rfl) ?_
  refine lv_iload_n hx hb dX9_edge_1 rfl (lv_at hl 1 rfl) ?_
  refine lv_iload_n hx hb dX9_edge_2 rfl (lv_at hl 2 rfl) ?_
  refine ti_calli (va_runV (As := [.int x1, .int x2]) (rest := []) ⟨hx, hb, hml, hown, hts⟩ (t_X9_canHide l hT ha0 (iv_w hx1 (by decide)) (iv_w hx2 (by decide))) (cwV 2 hts (good_V kw_1330 kw_1331 kw_1332 kw_2 kw_1333) rfl rfl rfl (by decide +kernel) ⟨by rw [hR]; decide, by rw [hR]; decide⟩) (ti_preV hK hT ha0 rfl rfl) rfl rfl hl.1 rfl (lv_room (Nat.le_of_ble_eq_true rfl)) dX9_edge_3 ⟨Nat.zero_le _, Nat.zero_le _⟩) hS (pW_sub rfl) (fun v3 H1 locs hB hS _ hk3 => ?_)
  obtain ⟨hH, hv3, hp3⟩ := hB
  rw [hH] at hS ⊢
  refine lv_if_ne (tgt := 12) hx hb dX9_edge_6 (by decide) (fun c6 => ?_) (fun c6 => ?_)
  · skip
    have kl0 : (0 : Int32).toInt = 0 := by decide
    have f6 := i_ne c6
    have hv3_6l : iv v3 1 1 := iv_nel hv3 (iv_c (x := (0 : Int32)) (k := 0) (by decide)) c6 (by decide)
    have hx1_6p : iv x1 0 7 := by have b0a := (hx1).1; have b0b := (hx1).2; exact ⟨by omega, by omega⟩
    refine lv_aload_n hx hb dX9_edge_12 rfl (lv_at hl 0 rfl) ?_
    refine ti_getr hx hb hts inlX9 hown hK hT ha0 rfl rfl rfl 1 (by decide) (hts _ kw_20) (fun _ h9 => h9) rfl dX9_edge_13 (fun v13 hv13 hm13 => ?_)
    refine ti_getr hx hb hts inlX7 hown hK hT hv13 rfl rfl rfl 8 (by decide) (hts _ kw_471) (fun _ h9 => h9) rfl dX9_edge_16 (fun v16 hv16 hm16 => ?_)
    refine lv_iload_n hx hb dX9_edge_19 rfl (lv_at hl 1 rfl) ?_
    refine ti_aald hx hb (aT6 hK) hT hv16 rfl hx1_6p (by decide) (fun _ _ _ => rfl) dX9_edge_20 (fun v20 hv20 => ?_)
    refine ti_geti hx hb hts inlX3 hown hK hT hv20 rfl rfl rfl 0 (by decide) (hts _ kw_472) (fun _ h9 => h9) rfl dX9_edge_21 (fun v21 hv21 hm21 => ?_)
    refine lv_istore_n (lv' := [(3, .int v21), (0, .ref a0), (1, .int x1), (2, .int x2)]) hx hb dX9_edge_24 rfl hl (by decide) rfl (fun ls hl => ?_)
    refine lv_aload_n hx hb dX9_edge_25 rfl (lv_at hl 1 rfl) ?_
    refine ti_getr hx hb hts inlX9 hown hK hT ha0 rfl rfl rfl 7 (by decide) (hts _ kw_34) (fun _ h9 => h9) rfl dX9_edge_26 (fun v26 hv26 hm26 => ?_)
    refine lv_aload_n hx hb dX9_edge_29 rfl (lv_at hl 1 rfl) ?_
    refine ti_getE (ci := 9) (v := .ref v13) hx hb hts inlX9 hown hK hm13 rfl (by decide) (hts _ kw_20) (fun _ h9 => h9) dX9_edge_30 ?_
    refine lv_iload_n hx hb dX9_edge_33 rfl (lv_at hl 2 rfl) ?_
    refine lv_iconst (v := 0) hx hb dX9_edge_34 (by decide) ?_
    refine lv_iconst (v := 1) hx hb dX9_edge_35 (by decide) ?_
    refine ti_callv (va_runV (As := [.ref v13, .int x1, .int (0 : Int32), .int (1 : Int32)]) (rest := []) ⟨hx, hb, hml, hown, hts⟩ (t_X2_see l hT hv26 hv13 (iv_w hx1_6p (by decide)) (iv_w (iv_c (x := (0 : Int32)) (k := 0) (by decide)) (by decide)) (iv_w (iv_c (x := (1 : Int32)) (k := 1) (by decide)) (by decide))) (cwV 4 hts (good_V kw_1004 kw_867 kw_868 kw_33 kw_869) rfl rfl rfl (by decide +kernel) ⟨by rw [hR]; decide, by rw [hR]; decide⟩) (ti_preV hK hT hv26 rfl rfl) rfl rfl hl.1 rfl (lv_room (Nat.le_of_ble_eq_true rfl)) dX9_edge_36 ⟨Nat.zero_le _, Nat.zero_le _⟩) hS (pW_sub rfl) (fun H locs hB hS _ hk36 => ?_)
    have hT := hB
    refine lv_aload_n hx hb dX9_edge_39 rfl (lv_at hl 1 rfl) ?_
    refine ti_getE (ci := 9) (v := .ref v26) hx hb hts inlX9 hown hK (hm26.call hk36 (pW_not ha0 rfl)) rfl (by decide) (hts _ kw_34) (fun _ h9 => h9) dX9_edge_40 ?_
    refine lv_aload_n hx hb dX9_edge_43 rfl (lv_at hl 1 rfl) ?_
    refine ti_getE (ci := 9) (v := .ref v13) hx hb hts inlX9 hown hK (hm13.call hk36 (pW_not ha0 rfl)) rfl (by decide) (hts _ kw_20) (fun _ h9 => h9) dX9_edge_44 ?_
    refine lv_iload_n hx hb dX9_edge_47 rfl (lv_at hl 0 rfl) ?_
    refine lv_iload_n hx hb dX9_edge_48 rfl (lv_at hl 3 rfl) ?_
    refine ti_calli (va_runV (As := [.ref v13, .int v21, .int x2]) (rest := []) ⟨hx, hb, hml, hown, hts⟩ (t_X2_worthOfHolding l hT hv26 hv13 (iv_w hv21 (by decide)) (iv_w hx2 (by decide))) (cwV 3 hts (good_V kw_1334 kw_1335 kw_1336 kw_33 kw_1337) rfl rfl rfl (by decide +kernel) ⟨by rw [hR]; decide, by rw [hR]; decide⟩) (ti_preV hK hT hv26 rfl rfl) rfl rfl hl.1 rfl (lv_room (Nat.le_of_ble_eq_true rfl)) dX9_edge_49 ⟨Nat.zero_le _, Nat.zero_le _⟩) hS (pW_sub rfl) (fun v49 H locs hB hS _ hk49 => ?_)
    have hT := hB
    refine lv_istore (lv' := [(4, .int v49), (3, .int v21), (0, .ref a0), (1, .int x1), (2, .int x2)]) hx hb dX9_edge_52 hl (by decide) rfl (fun ls hl => ?_)
    refine lv_aload_n hx hb dX9_edge_54 rfl (lv_at hl 2 rfl) ?_
    refine ti_getE (ci := 9) (v := .ref v26) hx hb hts inlX9 hown hK ((hm26.call hk36 (pW_not ha0 rfl)).call hk49 (pW_not ha0 rfl)) rfl (by decide) (hts _ kw_34) (fun _ h9 => h9) dX9_edge_55 ?_
    refine lv_aload_n hx hb dX9_edge_58 rfl (lv_at hl 2 rfl) ?_
    refine ti_getE (ci := 9) (v := .ref v13) hx hb hts inlX9 hown hK ((hm13.call hk36 (pW_not ha0 rfl)).call hk49 (pW_not ha0 rfl)) rfl (by decide) (hts _ kw_20) (fun _ h9 => h9) dX9_edge_59 ?_
    refine lv_iload_n hx hb dX9_edge_62 rfl (lv_at hl 1 rfl) ?_
    refine lv_iload_n hx hb dX9_edge_63 rfl (lv_at hl 4 rfl) ?_
    refine lv_isub hx hb dX9_edge_64 ?_
    refine lv_topi (fun v64 e64 => ?_)
    have hv64 : iv v64 (-2147483648) 2147483647 := iv_top _
    refine lv_iconst (v := 0) hx hb dX9_edge_65 (by decide) ?_
    refine ti_calli (va_runV (As := [.ref v13, .int v64, .int (0 : Int32)]) (rest := []) ⟨hx, hb, hml, hown, hts⟩ (t_X2_worthOfHolding l hT hv26 hv13 (iv_w hv64 (by decide)) (iv_w (iv_c (x := (0 : Int32)) (k := 0) (by decide)) (by decide))) (cwV 3 hts (good_V kw_1334 kw_1335 kw_1336 kw_33 kw_1337) rfl rfl rfl (by decide +kernel) ⟨by rw [hR]; decide, by rw [hR]; decide⟩) (ti_preV hK hT hv26 rfl rfl) rfl rfl hl.1 rfl (lv_room (Nat.le_of_ble_eq_true rfl)) dX9_edge_66 ⟨Nat.zero_le _, Nat.zero_le _⟩) hS (pW_sub rfl) (fun v66 H locs hB hS _ hk66 => ?_)
    have hT := hB
    refine lv_istore (lv' := [(5, .int v66), (4, .int v49), (3, .int v21), (0, .ref a0), (1, .int x1), (2, .int x2)]) hx hb dX9_edge_69 hl (by decide) rfl (fun ls hl => ?_)
    refine lv_aload_n hx hb dX9_edge_71 rfl (lv_at hl 3 rfl) ?_
    refine ti_getE (ci := 9) (v := .ref v26) hx hb hts inlX9 hown hK (((hm26.call hk36 (pW_not ha0 rfl)).call hk49 (pW_not ha0 rfl)).call hk66 (pW_not ha0 rfl)) rfl (by decide) (hts _ kw_34) (fun _ h9 => h9) dX9_edge_72 ?_
    refine lv_aload_n hx hb dX9_edge_75 rfl (lv_at hl 3 rfl) ?_
    refine ti_getE (ci := 9) (v := .ref v13) hx hb hts inlX9 hown hK (((hm13.call hk36 (pW_not ha0 rfl)).call hk49 (pW_not ha0 rfl)).call hk66 (pW_not ha0 rfl)) rfl (by decide) (hts _ kw_20) (fun _ h9 => h9) dX9_edge_76 ?_
    refine lv_iload_n hx hb dX9_edge_79 rfl (lv_at hl 2 rfl) ?_
    refine lv_iconst (v := 0) hx hb dX9_edge_80 (by decide) ?_
    refine ti_calli (va_runV (As := [.ref v13, .int v21, .int (0 : Int32)]) (rest := []) ⟨hx, hb, hml, hown, hts⟩ (t_X2_worthOfHolding l hT hv26 hv13 (iv_w hv21 (by decide)) (iv_w (iv_c (x := (0 : Int32)) (k := 0) (by decide)) (by decide))) (cwV 3 hts (good_V kw_1334 kw_1335 kw_1336 kw_33 kw_1337) rfl rfl rfl (by decide +kernel) ⟨by rw [hR]; decide, by rw [hR]; decide⟩) (ti_preV hK hT hv26 rfl rfl) rfl rfl hl.1 rfl (lv_room (Nat.le_of_ble_eq_true rfl)) dX9_edge_81 ⟨Nat.zero_le _, Nat.zero_le _⟩) hS (pW_sub rfl) (fun v81 H locs hB hS _ hk81 => ?_)
    have hT := hB
    refine lv_istore (lv' := [(6, .int v81), (5, .int v66), (4, .int v49), (3, .int v21), (0, .ref a0), (1, .int x1), (2, .int x2)]) hx hb dX9_edge_84 hl (by decide) rfl (fun ls hl => ?_)
    refine lv_iconst (v := 0) hx hb dX9_edge_86 (by decide) ?_
    have J89 : ∀ (n : Nat) (j89_L7 : Int32) (H : Heap) (locs : List Loc) (ls : Array Slot), (101 - j89_L7.toInt).toNat < n → iv j89_L7 0 101 → TI D vwCl (tysOf c0) (RTg ν) Y H → va_S (pW Y [2, 4, 29]) s.heap H locs → lv_has ls 8 [(0, .ref a0), (1, .int x1), (2, .int x2), (3, .int v21), (4, .int v49), (5, .int v66), (6, .int v81), (7, .int j89_L7)] → W p l e R s m ([.ref a0, .int x1, .int x2] : List Value).toArray below meth c H locs 0 0 Q (F0 m 89 ls []) := by
      intro n
      induction n with
      | zero => intro j89_L7 H locs ls hms; exact absurd hms (Nat.not_lt_zero _)
      | succ n ih89 =>
        intro j89_L7 H locs ls hms89 hj89_L7 hT hS hl
        refine lv_iload hx hb dX9_edge_89 (lv_at hl 7 rfl) ?_
        refine lv_bipush (v := 100) hx hb dX9_edge_91 (by decide) ?_
        refine lv_icmp_gt (tgt := 119) hx hb dX9_edge_93 (by decide) (fun c93 => ?_) (fun c93 => ?_)
        · skip
          have kl100 : (100 : Int32).toInt = 100 := by decide
          have f93 := i_lt c93
          have hj89_L7_93r : iv j89_L7 101 101 := iv_ltr (iv_c (x := (100 : Int32)) (k := 100) (by decide)) hj89_L7 c93 (by decide)
          refine lv_iconst (v := (-1)) hx hb dX9_edge_119 (by decide) ?_
          exact ret _ _ _ _ _ dX9_edge_120 (⟨hT, iv_w (iv_c (x := (-1 : Int32)) (k := (-1)) (by decide)) (by decide)⟩) hS
        · skip
          have kl100 : (100 : Int32).toInt = 100 := by decide
          have f93 := i_nlt c93
          have hj89_L7_93l : iv j89_L7 0 100 := iv_lel hj89_L7 (iv_c (x := (100 : Int32)) (k := 100) (by decide)) (Int32.not_lt.mp c93) (by decide)
          refine lv_iload hx hb dX9_edge_96 (lv_at hl 4 rfl) ?_
          refine lv_iload hx hb dX9_edge_98 (lv_at hl 5 rfl) ?_
          refine lv_iload hx hb dX9_edge_100 (lv_at hl 7 rfl) ?_
          refine ti_calli (va_runS (As := [.int v49, .int v66, .int j89_L7]) (rest := []) ⟨hx, hb, hml, hown, hts⟩ (t_X9_mixByFound l hT (iv_w (iv_top v49) (by decide)) (iv_w (iv_top v66) (by decide)) (iv_w hj89_L7_93l (by decide))) (cwS 3 hts (good_S kw_1338 kw_1339 kw_2 kw_1340) rfl rfl rfl (by decide +kernel) ⟨by rw [hR]; decide, by rw [hR]; decide⟩) (ti_preS hK) rfl rfl hl.1 rfl (lv_room (Nat.le_of_ble_eq_true rfl)) dX9_edge_102 ⟨Nat.zero_le _, Nat.zero_le _⟩) hS (pW_sub rfl) (fun v102 H1 locs hB hS _ hk102 => ?_)
          have hH := hB
          rw [hH] at hS ⊢
          refine lv_iload hx hb dX9_edge_105 (lv_at hl 6 rfl) ?_
          refine lv_icmp_gt (tgt := 113) hx hb dX9_edge_107 (by decide) (fun c107 => ?_) (fun c107 => ?_)
          · skip
            have f107 := i_lt c107
            have hv81_107l : iv v81 (-2147483648) 2147483646 := iv_ltl (iv_top v81) (iv_top v102) c107 (by decide)
            have hv102_107r : iv v102 (-2147483647) 2147483647 := iv_ltr hv81_107l (iv_top v102) c107 (by decide)
            obtain ⟨v113, e113⟩ : ∃ y : Int32, y = j89_L7 + 1 := ⟨_, rfl⟩
            have hv113 : iv v113 1 101 := by rw [e113]; exact iv_w (iv_add hj89_L7_93l (iv_c (x := (1 : Int32)) (k := 1) (by decide)) (by decide)) (by decide)
            have s113 : v113.toInt = j89_L7.toInt + 1 := by rw [e113, iv_addE hj89_L7_93l (iv_c (x := (1 : Int32)) (k := 1) (by decide)) (by decide)]; rfl
            refine lv_iinc (v := v113) (lv' := [(7, .int v113), (0, .ref a0), (1, .int x1), (2, .int x2), (3, .int v21), (4, .int v49), (5, .int v66), (6, .int v81)]) hx hb dX9_edge_113 hl (k := 7) rfl (by rw [e113]; rfl) (by decide) rfl (fun ls hl => ?_)
            refine lv_goto (tgt := 89) hx hb dX9_edge_116 (by decide) ?_
            exact ih89 v113 _ _ _ (ms_up hms89 (by have := s113; omega) (iv_w (c := 1) (d := 101) hv113 (by decide)).2) (iv_w hv113 (by decide)) hT hS (lv_sub hl [1, 2, 3, 4, 5, 6, 7, 0] rfl)
          · skip
            have f107 := i_nlt c107
            refine lv_iload hx hb dX9_edge_110 (lv_at hl 7 rfl) ?_
            exact ret _ _ _ _ _ dX9_edge_112 (⟨hT, iv_w hj89_L7_93l (by decide)⟩) hS
    refine lv_istore (lv' := [(7, .int (0 : Int32)), (6, .int v81), (5, .int v66), (4, .int v49), (3, .int v21), (0, .ref a0), (1, .int x1), (2, .int x2)]) hx hb dX9_edge_87 hl (by decide) rfl (fun ls hl => ?_)
    exact J89 _ (0 : Int32) _ _ _ (Nat.lt_succ_self _) (iv_w (iv_c (x := (0 : Int32)) (k := 0) (by decide)) (by decide)) hT hS (lv_sub hl [5, 6, 7, 4, 3, 2, 1, 0] rfl)
  · skip
    have kl0 : (0 : Int32).toInt = 0 := by decide
    have f6 := i_eq c6
    have hv3_6l : iv v3 0 0 := iv_eql hv3 (iv_c (x := (0 : Int32)) (k := 0) (by decide)) c6 (by decide)
    refine lv_bipush (v := (-2)) hx hb dX9_edge_9 (by decide) ?_
    exact ret _ _ _ _ _ dX9_edge_11 (⟨hT, iv_w (iv_c (x := (-2 : Int32)) (k := (-2)) (by decide)) (by decide)⟩) hS
set_option maxHeartbeats 4000000 in
set_option maxRecDepth 100000 in
theorem t_X9_pays (l : Launch) {D : va_G} {c0 : Nat → ClassId} {Y : Nat → Option Nat} {ν : Nat → Nat} {H : Heap} (hT : TI D vwCl (tysOf c0) (RTg ν) Y H) {a0 : Nat} (ha0 : Y a0 = some 9) {x1 : Int32} (hx1 : iv x1 (-2147483648) 2147483647) {x2 : Int32} (hx2 : iv x2 (-2147483648) 2147483647) : Met l yX9_pays (wz yX9_pays cX9_pays 6 (some .int)) { frames := 6, cells := 0, slots := 0, locals := 166 } (TP D vwCl (tysOf c0) H [.ref a0, .int x1, .int x2]) (TQi (fun x H' => TI D vwCl (tysOf c0) (RTg ν) Y H') Y [0, 1, 2, 3, 4, 7, 8, 20, 22, 28, 29]) 0 0 (pW Y [0, 1, 2, 3, 4, 7, 8, 20, 22, 28, 29]) := by
  refine Met.ofW (cc := cX9_pays) (maxL := 6) (ret := (some .int)) (by decide) rfl ?_
  intro p e s m args below meth c s₁ B hml hv
  obtain ⟨rfl, rfl, hK⟩ := hv
  have hx := B.exec
  have hb := B.bytes
  have hr := B.returns
  have hts : ∀ w ∈ wq, w.before _ s = true := fun w h => atoms_spec (ws := wz yX9_pays cX9_pays 6 (some .int)) B.pre w (List.mem_cons_of_mem _ h)
  have hown : s.vm.findClass RX9 = some m.cls := findClass_of_methodNamed B.named
  have hlocks := B.notSynchronized
  obtain ⟨R, hR⟩ : ∃ R : Room, R = ({ frames := 6, cells := 0, slots := 0, locals := 166 } : Room) := ⟨_, rfl⟩
  rw [show (headSpec (wz yX9_pays cX9_pays 6 (some .int)) { frames := 6, cells := 0, slots := 0, locals := 166 }).room = R from hR.symm]
  refine ti_mi hx hb hr hlocks (fun Q ret => ?_)
  have hl := lv_entry [.ref a0, .int x1, .int x2] (n := 6) (Nat.le_of_ble_eq_true rfl)
  rw [lg_entry_eq]
  generalize (lg_sl [.ref a0, .int x1, .int x2] ++ List.replicate (6 - (lg_sl [.ref a0, .int x1, .int x2]).length) Slot.unset).toArray = ls at hl ⊢
  have hl : lv_has ls 6 [(0, .ref a0), (1, .int x1), (2, .int x2)] := hl
  refine ti_gen (P := fun H => TI D vwCl (tysOf c0) (RTg ν) Y H) (Y := Y) (ws := [0, 1, 2, 3, 4, 7, 8, 20, 22, 28, 29]) hT (fun H locs hT hS => ?_)
  refine lv_aload_n hx hb dX9_pays_0 rfl (lv_at hl 0 rfl) ?_
  refine lv_iload_n hx hb dX9_pays_1 rfl (lv_at hl 1 rfl) ?_
  refine lv_i2l hx hb dX9_pays_2 rfl ?_
  refine lv_topl (fun v2 e2 => ?_)
  have hv2 : jv v2 (-2147483648) 2147483647 := by rw [e2]; exact jv_i hx1
  have t2 : v2.toInt = x1.toInt := by rw [e2]; exact jv_e _
  refine ti_calli (va_runV (As := [.long v2]) (rest := []) ⟨hx, hb, hml, hown, hts⟩ (t_X9_isPerson l hT ha0 (jv_w hv2 (by decide))) (cwV 1 hts (good_V kw_476 kw_477 kw_478 kw_2 kw_479) rfl rfl rfl (by decide +kernel) ⟨by rw [hR]; decide, by rw [hR]; decide⟩) (ti_preV hK hT ha0 rfl rfl) rfl rfl hl.1 rfl (lv_room (Nat.le_of_ble_eq_true rfl)) dX9_pays_3 ⟨Nat.zero_le _, Nat.zero_le _⟩) hS (pW_sub rfl) (fun v3 H1 locs hB hS _ hk3 => ?_)
  obtain ⟨hH, hv3, hp3⟩ := hB
  rw [hH] at hS ⊢
  refine lv_if_eq (tgt := 16) hx hb dX9_pays_6 (by decide) (fun c6 => ?_) (fun c6 => ?_)
  · skip
    have kl0 : (0 : Int32).toInt = 0 := by decide
    have f6 := i_eq c6
    have hv3_6l : iv v3 0 0 := iv_eql hv3 (iv_c (x := (0 : Int32)) (k := 0) (by decide)) c6 (by decide)
    refine lv_bipush (v := (-2)) hx hb dX9_pays_16 (by decide) ?_
    exact ret _ _ _ _ _ dX9_pays_18 (hT) hS
  · skip
    have kl0 : (0 : Int32).toInt = 0 := by decide
    have f6 := i_ne c6
    have hv3_6l : iv v3 1 1 := iv_nel hv3 (iv_c (x := (0 : Int32)) (k := 0) (by decide)) c6 (by decide)
    have hv2_6p : jv v2 0 7 := by have b0a := (hv2).1; have b0b := (hv2).2; exact ⟨by omega, by omega⟩
    have hx1_6p : iv x1 0 7 := by have := t2; have b0a := (hv2_6p).1; have b0b := (hv2_6p).2; have b1a := (hx1).1; have b1b := (hx1).2; exact ⟨by omega, by omega⟩
    refine lv_iload_n hx hb dX9_pays_9 rfl (lv_at hl 2 rfl) ?_
    refine ti_calli (va_runS (As := [.int x2]) (rest := []) ⟨hx, hb, hml, hown, hts⟩ (t_X9_areDays l hT (iv_w hx2 (by decide))) (cwS 1 hts (good_S kw_837 kw_838 kw_2 kw_839) rfl rfl rfl (by decide +kernel) ⟨by rw [hR]; decide, by rw [hR]; decide⟩) (ti_preS hK) rfl rfl hl.1 rfl (lv_room (Nat.le_of_ble_eq_true rfl)) dX9_pays_10 ⟨Nat.zero_le _, Nat.zero_le _⟩) hS (pW_sub rfl) (fun v10 H1 locs hB hS _ hk10 => ?_)
    obtain ⟨hH, hv10, hp10⟩ := hB
    rw [hH] at hS ⊢
    refine lv_if_ne (tgt := 19) hx hb dX9_pays_13 (by decide) (fun c13 => ?_) (fun c13 => ?_)
    · skip
      have f13 := i_ne c13
      have hv10_13l : iv v10 1 1 := iv_nel hv10 (iv_c (x := (0 : Int32)) (k := 0) (by decide)) c13 (by decide)
      have hx2_13p : iv x2 1 30 := by have b0a := (hx2).1; have b0b := (hx2).2; exact ⟨by omega, by omega⟩
      refine lv_aload_n hx hb dX9_pays_19 rfl (lv_at hl 0 rfl) ?_
      refine ti_callr (va_runV (As := []) (rest := []) ⟨hx, hb, hml, hown, hts⟩ (t_X9_startThought l hT ha0) (cwV 0 hts (good_V kw_802 kw_803 kw_804 kw_2 kw_805) rfl rfl rfl (by decide +kernel) ⟨by rw [hR]; decide, by rw [hR]; decide⟩) (ti_preV hK hT ha0 rfl rfl) rfl rfl hl.1 rfl (lv_room (Nat.le_of_ble_eq_true rfl)) dX9_pays_20 ⟨Nat.zero_le _, Nat.zero_le _⟩) hS (pW_sub rfl) (fun v20 H locs hB hS _ hk20 => ?_)
      obtain ⟨hT, hv20⟩ := hB
      refine lv_astore_n (lv' := [(3, .ref v20), (0, .ref a0), (1, .int x1), (2, .int x2)]) hx hb dX9_pays_23 rfl hl (by decide) rfl (fun ls hl => ?_)
      refine lv_iconst (v := 0) hx hb dX9_pays_24 (by decide) ?_
      refine lv_istore (lv' := [(4, .int (0 : Int32)), (3, .ref v20), (0, .ref a0), (1, .int x1), (2, .int x2)]) hx hb dX9_pays_25 hl (by decide) rfl (fun ls hl => ?_)
      refine lv_iconst (v := 0) hx hb dX9_pays_27 (by decide) ?_
      have J30 : ∀ (n : Nat) (j30_L4 : Int32) (j30_L5 : Int32) (H : Heap) (locs : List Loc) (ls : Array Slot), (30 - j30_L5.toInt).toNat < n → iv j30_L4 (-2147483648) 2147483647 → iv j30_L5 0 30 → TI D vwCl (tysOf c0) (RTg ν) Y H → va_S (pW Y [0, 1, 2, 3, 4, 7, 8, 20, 22, 28, 29]) s.heap H locs → lv_has ls 6 [(0, .ref a0), (1, .int x1), (2, .int x2), (3, .ref v20), (4, .int j30_L4), (5, .int j30_L5)] → W p l e R s m ([.ref a0, .int x1, .int x2] : List Value).toArray below meth c H locs 0 0 Q (F0 m 30 ls []) := by
        intro n
        induction n with
        | zero => intro j30_L4 j30_L5 H locs ls hms; exact absurd hms (Nat.not_lt_zero _)
        | succ n ih30 =>
          intro j30_L4 j30_L5 H locs ls hms30 hj30_L4 hj30_L5 hT hS hl
          refine lv_iload hx hb dX9_pays_30 (lv_at hl 5 rfl) ?_
          refine lv_iload_n hx hb dX9_pays_32 rfl (lv_at hl 2 rfl) ?_
          refine lv_icmp_ge (tgt := 64) hx hb dX9_pays_33 (by decide) (fun c33 => ?_) (fun c33 => ?_)
          · skip
            have f33 := i_le c33
            have hj30_L5_33r : iv j30_L5 1 30 := iv_ler hx2_13p hj30_L5 c33 (by decide)
            refine lv_iload hx hb dX9_pays_64 (lv_at hl 4 rfl) ?_
            exact ret _ _ _ _ _ dX9_pays_66 (hT) hS
          · skip
            have f33 := i_nle c33
            have hj30_L5_33l : iv j30_L5 0 29 := iv_ltl hj30_L5 hx2_13p (Int32.not_le.mp c33) (by decide)
            refine lv_aload_n hx hb dX9_pays_36 rfl (lv_at hl 0 rfl) ?_
            refine ti_getr hx hb hts inlX9 hown hK hT ha0 rfl rfl rfl 8 (by decide) (hts _ kw_38) (fun _ h9 => h9) rfl dX9_pays_37 (fun v37 hv37 hm37 => ?_)
            refine lv_aload_n hx hb dX9_pays_40 rfl (lv_at hl 3 rfl) ?_
            refine lv_iconst (v := 1) hx hb dX9_pays_41 (by decide) ?_
            refine ti_callv (va_runV (As := [.ref v20, .int (1 : Int32)]) (rest := []) ⟨hx, hb, hml, hown, hts⟩ (t_X8_pass l hT hv37 hv20 (iv_w (iv_c (x := (1 : Int32)) (k := 1) (by decide)) (by decide))) (cwV 2 hts (good_V kw_840 kw_841 kw_842 kw_37 kw_843) rfl rfl rfl (by decide +kernel) ⟨by rw [hR]; decide, by rw [hR]; decide⟩) (ti_preV hK hT hv37 rfl rfl) rfl rfl hl.1 rfl (lv_room (Nat.le_of_ble_eq_true rfl)) dX9_pays_42 ⟨Nat.zero_le _, Nat.zero_le _⟩) hS (pW_sub rfl) (fun H locs hB hS _ hk42 => ?_)
            have hT := hB
            refine lv_iload hx hb dX9_pays_45 (lv_at hl 4 rfl) ?_
            refine lv_aload_n hx hb dX9_pays_47 rfl (lv_at hl 0 rfl) ?_
            refine ti_getE (ci := 9) (v := .ref v37) hx hb hts inlX9 hown hK (hm37.call hk42 (pW_not ha0 rfl)) rfl (by decide) (hts _ kw_38) (fun _ h9 => h9) dX9_pays_48 ?_
            refine lv_iload_n hx hb dX9_pays_51 rfl (lv_at hl 1 rfl) ?_
            refine ti_calli (va_runV (As := [.int x1]) (rest := [.int j30_L4]) ⟨hx, hb, hml, hown, hts⟩ (t_X8_lossOf l hT hv37 (iv_w hx1_6p (by decide))) (cwV 1 hts (good_V kw_1369 kw_1370 kw_1371 kw_37 kw_1372) rfl rfl rfl (by decide +kernel) ⟨by rw [hR]; decide, by rw [hR]; decide⟩) (ti_preV hK hT hv37 rfl rfl) rfl rfl hl.1 rfl (lv_room (Nat.le_of_ble_eq_true rfl)) dX9_pays_52 ⟨Nat.zero_le _, Nat.zero_le _⟩) hS (pW_sub rfl) (fun v52 H1 locs hB hS _ hk52 => ?_)
            have hH := hB
            rw [hH] at hS ⊢
            refine lv_iadd hx hb dX9_pays_55 ?_
            refine lv_topi (fun v55 e55 => ?_)
            have hv55 : iv v55 (-2147483648) 2147483647 := iv_top _
            refine lv_istore (lv' := [(4, .int v55), (0, .ref a0), (1, .int x1), (2, .int x2), (3, .ref v20), (5, .int j30_L5)]) hx hb dX9_pays_56 hl (by decide) rfl (fun ls hl => ?_)
            obtain ⟨v58, e58⟩ : ∃ y : Int32, y = j30_L5 + 1 := ⟨_, rfl⟩
            have hv58 : iv v58 1 30 := by rw [e58]; exact iv_w (iv_add hj30_L5_33l (iv_c (x := (1 : Int32)) (k := 1) (by decide)) (by decide)) (by decide)
            have s58 : v58.toInt = j30_L5.toInt + 1 := by rw [e58, iv_addE hj30_L5_33l (iv_c (x := (1 : Int32)) (k := 1) (by decide)) (by decide)]; rfl
            refine lv_iinc (v := v58) (lv' := [(5, .int v58), (4, .int v55), (0, .ref a0), (1, .int x1), (2, .int x2), (3, .ref v20)]) hx hb dX9_pays_58 hl (k := 5) rfl (by rw [e58]; rfl) (by decide) rfl (fun ls hl => ?_)
            refine lv_goto (tgt := 30) hx hb dX9_pays_61 (by decide) ?_
            exact ih30 v55 v58 _ _ _ (ms_up hms30 (by have := s58; omega) (iv_w (c := 1) (d := 30) hv58 (by decide)).2) (iv_w hv55 (by decide)) (iv_w hv58 (by decide)) hT hS (lv_sub hl [2, 3, 4, 5, 1, 0] rfl)
      refine lv_istore (lv' := [(5, .int (0 : Int32)), (4, .int (0 : Int32)), (3, .ref v20), (0, .ref a0), (1, .int x1), (2, .int x2)]) hx hb dX9_pays_28 hl (by decide) rfl (fun ls hl => ?_)
      exact J30 _ (0 : Int32) (0 : Int32) _ _ _ (Nat.lt_succ_self _) (iv_w (iv_c (x := (0 : Int32)) (k := 0) (by decide)) (by decide)) (iv_w (iv_c (x := (0 : Int32)) (k := 0) (by decide)) (by decide)) hT hS (lv_sub hl [3, 4, 5, 2, 1, 0] rfl)
    · skip
      have f13 := i_eq c13
      have hv10_13l : iv v10 0 0 := iv_eql hv10 (iv_c (x := (0 : Int32)) (k := 0) (by decide)) c13 (by decide)
      refine lv_bipush (v := (-2)) hx hb dX9_pays_16 (by decide) ?_
      exact ret _ _ _ _ _ dX9_pays_18 (hT) hS
set_option maxHeartbeats 4000000 in
set_option maxRecDepth 100000 in
theorem t_X9_quiet (l : Launch) {D : va_G} {c0 : Nat → ClassId} {Y : Nat → Option Nat} {ν : Nat → Nat} {H : Heap} (hT : TI D vwCl (tysOf c0) (RTg ν) Y H) {a0 : Nat} (ha0 : Y a0 = some 9) {x1 : Int32} (hx1 : iv x1 (-2147483648) 2147483647) {x2 : Int32} (hx2 : iv x2 (-2147483648) 2147483647) : Met l yX9_quiet (wz yX9_quiet cX9_quiet 7 (some .int)) { frames := 6, cells := 0, slots := 0, locals := 166 } (TP D vwCl (tysOf c0) H [.ref a0, .int x1, .int x2]) (TQi (fun x H' => TI D vwCl (tysOf c0) (RTg ν) Y H') Y [0, 1, 2, 3, 4, 7, 8, 20, 22, 28, 29]) 0 0 (pW Y [0, 1, 2, 3, 4, 7, 8, 20, 22, 28, 29]) := by
  refine Met.ofW (cc := cX9_quiet) (maxL := 7) (ret := (some .int)) (by decide) rfl ?_
  intro p e s m args below meth c s₁ B hml hv
  obtain ⟨rfl, rfl, hK⟩ := hv
  have hx := B.exec
  have hb := B.bytes
  have hr := B.returns
  have hts : ∀ w ∈ wq, w.before _ s = true := fun w h => atoms_spec (ws := wz yX9_quiet cX9_quiet 7 (some .int)) B.pre w (List.mem_cons_of_mem _ h)
  have hown : s.vm.findClass RX9 = some m.cls := findClass_of_methodNamed B.named
  have hlocks := B.notSynchronized
  obtain ⟨R, hR⟩ : ∃ R : Room, R = ({ frames := 6, cells := 0, slots := 0, locals := 166 } : Room) := ⟨_, rfl⟩
  rw [show (headSpec (wz yX9_quiet cX9_quiet 7 (some .int)) { frames := 6, cells := 0, slots := 0, locals := 166 }).room = R from hR.symm]
  refine ti_mi hx hb hr hlocks (fun Q ret => ?_)
  have hl := lv_entry [.ref a0, .int x1, .int x2] (n := 7) (Nat.le_of_ble_eq_true rfl)
  rw [lg_entry_eq]
  generalize (lg_sl [.ref a0, .int x1, .int x2] ++ List.replicate (7 - (lg_sl [.ref a0, .int x1, .int x2]).length) Slot.unset).toArray = ls at hl ⊢
  have hl : lv_has ls 7 [(0, .ref a0), (1, .int x1), (2, .int x2)] := hl
  refine ti_gen (P := fun H => TI D vwCl (tysOf c0) (RTg ν) Y H) (Y := Y) (ws := [0, 1, 2, 3, 4, 7, 8, 20, 22, 28, 29]) hT (fun H locs hT hS => ?_)
  refine lv_aload_n hx hb dX9_quiet_0 rfl (lv_at hl 0 rfl) ?_
  refine lv_iload_n hx hb dX9_quiet_1 rfl (lv_at hl 1 rfl) ?_
  refine ti_calli (va_runV (As := [.int x1]) (rest := []) ⟨hx, hb, hml, hown, hts⟩ (t_X9_canPass l hT ha0 (iv_w hx1 (by decide))) (cwV 1 hts (good_V kw_833 kw_834 kw_835 kw_2 kw_836) rfl rfl rfl (by decide +kernel) ⟨by rw [hR]; decide, by rw [hR]; decide⟩) (ti_preV hK hT ha0 rfl rfl) rfl rfl hl.1 rfl (lv_room (Nat.le_of_ble_eq_true rfl)) dX9_quiet_2 ⟨Nat.zero_le _, Nat.zero_le _⟩) hS (pW_sub rfl) (fun v2 H1 locs hB hS _ hk2 => ?_)
  obtain ⟨hH, hv2, hp2⟩ := hB
  rw [hH] at hS ⊢
  refine lv_if_eq (tgt := 17) hx hb dX9_quiet_5 (by decide) (fun c5 => ?_) (fun c5 => ?_)
  · skip
    have kl0 : (0 : Int32).toInt = 0 := by decide
    have f5 := i_eq c5
    have hv2_5l : iv v2 0 0 := iv_eql hv2 (iv_c (x := (0 : Int32)) (k := 0) (by decide)) c5 (by decide)
    refine lv_bipush (v := (-2)) hx hb dX9_quiet_17 (by decide) ?_
    exact ret _ _ _ _ _ dX9_quiet_19 (hT) hS
  · skip
    have kl0 : (0 : Int32).toInt = 0 := by decide
    have f5 := i_ne c5
    have hv2_5l : iv v2 1 1 := iv_nel hv2 (iv_c (x := (0 : Int32)) (k := 0) (by decide)) c5 (by decide)
    have hx1_5p : iv x1 1 30 := by have b0a := (hx1).1; have b0b := (hx1).2; exact ⟨by omega, by omega⟩
    refine lv_iload_n hx hb dX9_quiet_8 rfl (lv_at hl 2 rfl) ?_
    refine lv_if_lt (tgt := 17) hx hb dX9_quiet_9 (by decide) (fun c9 => ?_) (fun c9 => ?_)
    · skip
      have f9 := i_lt c9
      have hx2_9l : iv x2 (-2147483648) (-1) := iv_ltl hx2 (iv_c (x := (0 : Int32)) (k := 0) (by decide)) c9 (by decide)
      refine lv_bipush (v := (-2)) hx hb dX9_quiet_17 (by decide) ?_
      exact ret _ _ _ _ _ dX9_quiet_19 (hT) hS
    · skip
      have f9 := i_nlt c9
      have hx2_9r : iv x2 0 2147483647 := iv_ler (iv_c (x := (0 : Int32)) (k := 0) (by decide)) hx2 (Int32.not_lt.mp c9) (by decide)
      refine lv_iload_n hx hb dX9_quiet_12 rfl (lv_at hl 2 rfl) ?_
      refine lv_iconst (v := 1) hx hb dX9_quiet_13 (by decide) ?_
      refine lv_icmp_le (tgt := 20) hx hb dX9_quiet_14 (by decide) (fun c14 => ?_) (fun c14 => ?_)
      · skip
        have kl1 : (1 : Int32).toInt = 1 := by decide
        have f14 := i_le c14
        have hx2_14l : iv x2 0 1 := iv_lel hx2_9r (iv_c (x := (1 : Int32)) (k := 1) (by decide)) c14 (by decide)
        refine lv_aload_n hx hb dX9_quiet_20 rfl (lv_at hl 0 rfl) ?_
        refine ti_callr (va_runV (As := []) (rest := []) ⟨hx, hb, hml, hown, hts⟩ (t_X9_startThought l hT ha0) (cwV 0 hts (good_V kw_802 kw_803 kw_804 kw_2 kw_805) rfl rfl rfl (by decide +kernel) ⟨by rw [hR]; decide, by rw [hR]; decide⟩) (ti_preV hK hT ha0 rfl rfl) rfl rfl hl.1 rfl (lv_room (Nat.le_of_ble_eq_true rfl)) dX9_quiet_21 ⟨Nat.zero_le _, Nat.zero_le _⟩) hS (pW_sub rfl) (fun v21 H locs hB hS _ hk21 => ?_)
        obtain ⟨hT, hv21⟩ := hB
        refine lv_astore_n (lv' := [(3, .ref v21), (0, .ref a0), (1, .int x1), (2, .int x2)]) hx hb dX9_quiet_24 rfl hl (by decide) rfl (fun ls hl => ?_)
        refine lv_iconst (v := 0) hx hb dX9_quiet_25 (by decide) ?_
        refine lv_istore (lv' := [(4, .int (0 : Int32)), (3, .ref v21), (0, .ref a0), (1, .int x1), (2, .int x2)]) hx hb dX9_quiet_26 hl (by decide) rfl (fun ls hl => ?_)
        refine lv_iconst (v := 0) hx hb dX9_quiet_28 (by decide) ?_
        refine lv_istore (lv' := [(5, .int (0 : Int32)), (4, .int (0 : Int32)), (3, .ref v21), (0, .ref a0), (1, .int x1), (2, .int x2)]) hx hb dX9_quiet_29 hl (by decide) rfl (fun ls hl => ?_)
        refine lv_iconst (v := 1) hx hb dX9_quiet_31 (by decide) ?_
        have J34 : ∀ (n : Nat) (j34_L4 : Int32) (j34_L5 : Int32) (j34_L6 : Int32) (H : Heap) (locs : List Loc) (ls : Array Slot), (31 - j34_L6.toInt).toNat < n → iv j34_L4 (-2147483648) 2147483647 → iv j34_L5 0 30 → iv j34_L6 1 31 → TI D vwCl (tysOf c0) (RTg ν) Y H → va_S (pW Y [0, 1, 2, 3, 4, 7, 8, 20, 22, 28, 29]) s.heap H locs → lv_has ls 7 [(0, .ref a0), (1, .int x1), (2, .int x2), (3, .ref v21), (4, .int j34_L4), (5, .int j34_L5), (6, .int j34_L6)] → W p l e R s m ([.ref a0, .int x1, .int x2] : List Value).toArray below meth c H locs 0 0 Q (F0 m 34 ls []) := by
          intro n
          induction n with
          | zero => intro j34_L4 j34_L5 j34_L6 H locs ls hms; exact absurd hms (Nat.not_lt_zero _)
          | succ n ih34 =>
            intro j34_L4 j34_L5 j34_L6 H locs ls hms34 hj34_L4 hj34_L5 hj34_L6 hT hS hl
            refine lv_iload hx hb dX9_quiet_34 (lv_at hl 6 rfl) ?_
            refine lv_iload_n hx hb dX9_quiet_36 rfl (lv_at hl 1 rfl) ?_
            refine lv_icmp_gt (tgt := 82) hx hb dX9_quiet_37 (by decide) (fun c37 => ?_) (fun c37 => ?_)
            · skip
              have f37 := i_lt c37
              have hj34_L6_37r : iv j34_L6 2 31 := iv_ltr hx1_5p hj34_L6 c37 (by decide)
              refine lv_iload_n hx hb dX9_quiet_82 rfl (lv_at hl 2 rfl) ?_
              refine lv_if_ne (tgt := 91) hx hb dX9_quiet_83 (by decide) (fun c83 => ?_) (fun c83 => ?_)
              · skip
                have f83 := i_ne c83
                have hx2_83l : iv x2 1 1 := iv_nel hx2_14l (iv_c (x := (0 : Int32)) (k := 0) (by decide)) c83 (by decide)
                refine lv_iload hx hb dX9_quiet_91 (lv_at hl 5 rfl) ?_
                exact ret _ _ _ _ _ dX9_quiet_93 (hT) hS
              · skip
                have f83 := i_eq c83
                have hx2_83l : iv x2 0 0 := iv_eql hx2_14l (iv_c (x := (0 : Int32)) (k := 0) (by decide)) c83 (by decide)
                refine lv_iload hx hb dX9_quiet_86 (lv_at hl 4 rfl) ?_
                refine lv_goto (tgt := 93) hx hb dX9_quiet_88 (by decide) ?_
                exact ret _ _ _ _ _ dX9_quiet_93 (hT) hS
            · skip
              have f37 := i_nlt c37
              have hj34_L6_37l : iv j34_L6 1 30 := iv_lel hj34_L6 hx1_5p (Int32.not_lt.mp c37) (by decide)
              refine lv_aload_n hx hb dX9_quiet_40 rfl (lv_at hl 0 rfl) ?_
              refine ti_getr hx hb hts inlX9 hown hK hT ha0 rfl rfl rfl 8 (by decide) (hts _ kw_38) (fun _ h9 => h9) rfl dX9_quiet_41 (fun v41 hv41 hm41 => ?_)
              refine lv_aload_n hx hb dX9_quiet_44 rfl (lv_at hl 3 rfl) ?_
              refine lv_iconst (v := 1) hx hb dX9_quiet_45 (by decide) ?_
              refine ti_callv (va_runV (As := [.ref v21, .int (1 : Int32)]) (rest := []) ⟨hx, hb, hml, hown, hts⟩ (t_X8_pass l hT hv41 hv21 (iv_w (iv_c (x := (1 : Int32)) (k := 1) (by decide)) (by decide))) (cwV 2 hts (good_V kw_840 kw_841 kw_842 kw_37 kw_843) rfl rfl rfl (by decide +kernel) ⟨by rw [hR]; decide, by rw [hR]; decide⟩) (ti_preV hK hT hv41 rfl rfl) rfl rfl hl.1 rfl (lv_room (Nat.le_of_ble_eq_true rfl)) dX9_quiet_46 ⟨Nat.zero_le _, Nat.zero_le _⟩) hS (pW_sub rfl) (fun H locs hB hS _ hk46 => ?_)
              have hT := hB
              refine lv_aload_n hx hb dX9_quiet_49 rfl (lv_at hl 0 rfl) ?_
              refine ti_getE (ci := 9) (v := .ref v41) hx hb hts inlX9 hown hK (hm41.call hk46 (pW_not ha0 rfl)) rfl (by decide) (hts _ kw_38) (fun _ h9 => h9) dX9_quiet_50 ?_
              refine ti_geti hx hb hts inlX8 hown hK hT hv41 rfl rfl rfl 3 (by decide) (hts _ kw_832) (fun _ h9 => h9) rfl dX9_quiet_53 (fun v53 hv53 hm53 => ?_)
              have J76 : ∀ (j76_L4 : Int32) (j76_L5 : Int32) (H : Heap) (locs : List Loc) (ls : Array Slot), iv j76_L4 (-2147483648) 2147483647 → iv j76_L5 0 30 → TI D vwCl (tysOf c0) (RTg ν) Y H → va_S (pW Y [0, 1, 2, 3, 4, 7, 8, 20, 22, 28, 29]) s.heap H locs → lv_has ls 7 [(0, .ref a0), (1, .int x1), (2, .int x2), (3, .ref v21), (4, .int j76_L4), (5, .int j76_L5), (6, .int j34_L6)] → W p l e R s m ([.ref a0, .int x1, .int x2] : List Value).toArray below meth c H locs 0 0 Q (F0 m 76 ls []) := by
                intro j76_L4 j76_L5 H locs ls hj76_L4 hj76_L5 hT hS hl
                obtain ⟨v76, e76⟩ : ∃ y : Int32, y = j34_L6 + 1 := ⟨_, rfl⟩
                have hv76 : iv v76 2 31 := by rw [e76]; exact iv_w (iv_add hj34_L6_37l (iv_c (x := (1 : Int32)) (k := 1) (by decide)) (by decide)) (by decide)
                have s76 : v76.toInt = j34_L6.toInt + 1 := by rw [e76, iv_addE hj34_L6_37l (iv_c (x := (1 : Int32)) (k := 1) (by decide)) (by decide)]; rfl
                refine lv_iinc (v := v76) (lv' := [(6, .int v76), (0, .ref a0), (1, .int x1), (2, .int x2), (3, .ref v21), (4, .int j76_L4), (5, .int j76_L5)]) hx hb dX9_quiet_76 hl (k := 6) rfl (by rw [e76]; rfl) (by decide) rfl (fun ls hl => ?_)
                refine lv_goto (tgt := 34) hx hb dX9_quiet_79 (by decide) ?_
                exact ih34 j76_L4 j76_L5 v76 _ _ _ (ms_up hms34 (by have := s76; omega) (iv_w (c := 2) (d := 31) hv76 (by decide)).2) (iv_w hj76_L4 (by decide)) (iv_w hj76_L5 (by decide)) (iv_w hv76 (by decide)) hT hS (lv_sub hl [1, 2, 3, 4, 5, 6, 0] rfl)
              refine lv_if_ne (tgt := 76) hx hb dX9_quiet_56 (by decide) (fun c56 => ?_) (fun c56 => ?_)
              · skip
                have f56 := i_ne c56
                exact J76 j34_L4 j34_L5 _ _ _  (iv_w hj34_L4 (by decide)) (iv_w hj34_L5 (by decide)) hT hS (lv_sub hl [0, 1, 2, 3, 4, 5, 6] rfl)
              · skip
                have f56 := i_eq c56
                have hv53_56l : iv v53 0 0 := iv_eql hv53 (iv_c (x := (0 : Int32)) (k := 0) (by decide)) c56 (by decide)
                obtain ⟨v59, e59⟩ : ∃ y : Int32, y = j34_L4 + 1 := ⟨_, rfl⟩
                have hv59 : iv v59 (-2147483648) 2147483647 := iv_top _
                refine lv_iinc (v := v59) (lv' := [(4, .int v59), (0, .ref a0), (1, .int x1), (2, .int x2), (3, .ref v21), (5, .int j34_L5), (6, .int j34_L6)]) hx hb dX9_quiet_59 hl (k := 4) rfl (by rw [e59]; rfl) (by decide) rfl (fun ls hl => ?_)
                refine lv_iload hx hb dX9_quiet_62 (lv_at hl 5 rfl) ?_
                have J74 : ∀ (j74_S0 : Int32) (H : Heap) (locs : List Loc) (ls : Array Slot), iv j74_S0 1 30 → TI D vwCl (tysOf c0) (RTg ν) Y H → va_S (pW Y [0, 1, 2, 3, 4, 7, 8, 20, 22, 28, 29]) s.heap H locs → lv_has ls 7 [(0, .ref a0), (1, .int x1), (2, .int x2), (3, .ref v21), (4, .int v59), (5, .int j34_L5), (6, .int j34_L6)] → W p l e R s m ([.ref a0, .int x1, .int x2] : List Value).toArray below meth c H locs 0 0 Q (F0 m 74 ls [.int j74_S0]) := by
                  intro j74_S0 H locs ls hj74_S0 hT hS hl
                  refine lv_istore (lv' := [(5, .int j74_S0), (0, .ref a0), (1, .int x1), (2, .int x2), (3, .ref v21), (4, .int v59), (6, .int j34_L6)]) hx hb dX9_quiet_74 hl (by decide) rfl (fun ls hl => ?_)
                  exact J76 v59 j74_S0 _ _ _  (iv_w hv59 (by decide)) (iv_w hj74_S0 (by decide)) hT hS (lv_sub hl [1, 2, 3, 4, 5, 0, 6] rfl)
                refine lv_if_ne (tgt := 72) hx hb dX9_quiet_64 (by decide) (fun c64 => ?_) (fun c64 => ?_)
                · skip
                  have f64 := i_ne c64
                  have hj34_L5_64l : iv j34_L5 1 30 := iv_nel hj34_L5 (iv_c (x := (0 : Int32)) (k := 0) (by decide)) c64 (by decide)
                  refine lv_iload hx hb dX9_quiet_72 (lv_at hl 5 rfl) ?_
                  exact J74 j34_L5 _ _ _  (iv_w hj34_L5_64l (by decide)) hT hS (lv_sub hl [1, 2, 3, 4, 0, 5, 6] rfl)
                · skip
                  have f64 := i_eq c64
                  have hj34_L5_64l : iv j34_L5 0 0 := iv_eql hj34_L5 (iv_c (x := (0 : Int32)) (k := 0) (by decide)) c64 (by decide)
                  refine lv_iload hx hb dX9_quiet_67 (lv_at hl 6 rfl) ?_
                  refine lv_goto (tgt := 74) hx hb dX9_quiet_69 (by decide) ?_
                  exact J74 j34_L6 _ _ _  (iv_w hj34_L6_37l (by decide)) hT hS (lv_sub hl [1, 2, 3, 4, 0, 5, 6] rfl)
        refine lv_istore (lv' := [(6, .int (1 : Int32)), (5, .int (0 : Int32)), (4, .int (0 : Int32)), (3, .ref v21), (0, .ref a0), (1, .int x1), (2, .int x2)]) hx hb dX9_quiet_32 hl (by decide) rfl (fun ls hl => ?_)
        exact J34 _ (0 : Int32) (0 : Int32) (1 : Int32) _ _ _ (Nat.lt_succ_self _) (iv_w (iv_c (x := (0 : Int32)) (k := 0) (by decide)) (by decide)) (iv_w (iv_c (x := (0 : Int32)) (k := 0) (by decide)) (by decide)) (iv_w (iv_c (x := (1 : Int32)) (k := 1) (by decide)) (by decide)) hT hS (lv_sub hl [4, 5, 6, 3, 2, 1, 0] rfl)
      · skip
        have kl1 : (1 : Int32).toInt = 1 := by decide
        have f14 := i_nle c14
        have hx2_14r : iv x2 2 2147483647 := iv_ltr (iv_c (x := (1 : Int32)) (k := 1) (by decide)) hx2_9r (Int32.not_le.mp c14) (by decide)
        refine lv_bipush (v := (-2)) hx hb dX9_quiet_17 (by decide) ?_
        exact ret _ _ _ _ _ dX9_quiet_19 (hT) hS
set_option maxHeartbeats 4000000 in
set_option maxRecDepth 100000 in
theorem t_X9_hasAsNow (l : Launch) {D : va_G} {c0 : Nat → ClassId} {Y : Nat → Option Nat} {ν : Nat → Nat} {H : Heap} (hT : TI D vwCl (tysOf c0) (RTg ν) Y H) {a0 : Nat} (ha0 : Y a0 = some 9) {a1 : Nat} (ha1 : Y a1 = some 7) : Met l yX9_hasAsNow (wz yX9_hasAsNow cX9_hasAsNow 3 (some .boolean)) { frames := 0, cells := 0, slots := 0, locals := 0 } (TP D vwCl (tysOf c0) H [.ref a0, .ref a1]) (TQi (fun x H' => H' = H ∧ iv x 0 1) Y []) 0 0 (pW Y []) := by
  refine Met.ofW (cc := cX9_hasAsNow) (maxL := 3) (ret := (some .boolean)) (by decide) rfl ?_
  intro p e s m args below meth c s₁ B hml hv
  obtain ⟨rfl, rfl, hK⟩ := hv
  have hx := B.exec
  have hb := B.bytes
  have hr := B.returns
  have hts : ∀ w ∈ wq, w.before _ s = true := fun w h => atoms_spec (ws := wz yX9_hasAsNow cX9_hasAsNow 3 (some .boolean)) B.pre w (List.mem_cons_of_mem _ h)
  have hown : s.vm.findClass RX9 = some m.cls := findClass_of_methodNamed B.named
  have hlocks := B.notSynchronized
  obtain ⟨R, hR⟩ : ∃ R : Room, R = ({ frames := 0, cells := 0, slots := 0, locals := 0 } : Room) := ⟨_, rfl⟩
  rw [show (headSpec (wz yX9_hasAsNow cX9_hasAsNow 3 (some .boolean)) { frames := 0, cells := 0, slots := 0, locals := 0 }).room = R from hR.symm]
  refine ti_mz hx hb hr hlocks (fun Q ret => ?_)
  have hl := lv_entry [.ref a0, .ref a1] (n := 3) (Nat.le_of_ble_eq_true rfl)
  rw [lg_entry_eq]
  generalize (lg_sl [.ref a0, .ref a1] ++ List.replicate (3 - (lg_sl [.ref a0, .ref a1]).length) Slot.unset).toArray = ls at hl ⊢
  have hl : lv_has ls 3 [(0, .ref a0), (1, .ref a1)] := hl
  have hS : va_S (pW Y []) s.heap s.heap [] := va_S.rf
  refine lv_iconst (v := 0) hx hb dX9_hasAsNow_0 (by decide) ?_
  have J2 : ∀ (n : Nat) (j2_L2 : Int32) (locs : List Loc) (ls : Array Slot), (8 - j2_L2.toInt).toNat < n → iv j2_L2 0 8 → va_S (pW Y []) s.heap s.heap locs → lv_has ls 3 [(0, .ref a0), (1, .ref a1), (2, .int j2_L2)] → W p l e R s m ([.ref a0, .ref a1] : List Value).toArray below meth c s.heap locs 0 0 Q (F0 m 2 ls []) := by
    intro n
    induction n with
    | zero => intro j2_L2 locs ls hms; exact absurd hms (Nat.not_lt_zero _)
    | succ n ih2 =>
      intro j2_L2 locs ls hms2 hj2_L2 hS hl
      refine lv_iload_n hx hb dX9_hasAsNow_2 rfl (lv_at hl 2 rfl) ?_
      refine lv_aload_n hx hb dX9_hasAsNow_3 rfl (lv_at hl 1 rfl) ?_
      refine ti_geti hx hb hts inlX7 hown hK hT ha1 rfl rfl rfl 1 (by decide) (hts _ kw_480) (fun _ h9 => h9) rfl dX9_hasAsNow_4 (fun v4 hv4 hm4 => ?_)
      refine lv_icmp_ge (tgt := 42) hx hb dX9_hasAsNow_7 (by decide) (fun c7 => ?_) (fun c7 => ?_)
      · skip
        have f7 := i_le c7
        refine lv_iconst (v := 1) hx hb dX9_hasAsNow_42 (by decide) ?_
        exact ret _ _ _ _ _ dX9_hasAsNow_43 (iv_w (iv_c (x := (1 : Int32)) (k := 1) (by decide)) (by decide)) (⟨rfl, iv_w (iv_c (x := (1 : Int32)) (k := 1) (by decide)) (by decide)⟩) hS
      · skip
        have f7 := i_nle c7
        have hj2_L2_7l : iv j2_L2 0 7 := iv_ltl hj2_L2 hv4 (Int32.not_le.mp c7) (by decide)
        have hv4_7r : iv v4 1 8 := iv_ltr hj2_L2_7l hv4 (Int32.not_le.mp c7) (by decide)
        refine lv_aload_n hx hb dX9_hasAsNow_10 rfl (lv_at hl 1 rfl) ?_
        refine ti_getr hx hb hts inlX7 hown hK hT ha1 rfl rfl rfl 8 (by decide) (hts _ kw_471) (fun _ h9 => h9) rfl dX9_hasAsNow_11 (fun v11 hv11 hm11 => ?_)
        refine lv_iload_n hx hb dX9_hasAsNow_14 rfl (lv_at hl 2 rfl) ?_
        refine ti_aald hx hb (aT6 hK) hT hv11 rfl hj2_L2_7l (by decide) (fun _ _ _ => rfl) dX9_hasAsNow_15 (fun v15 hv15 => ?_)
        refine ti_geti hx hb hts inlX3 hown hK hT hv15 rfl rfl rfl 0 (by decide) (hts _ kw_472) (fun _ h9 => h9) rfl dX9_hasAsNow_16 (fun v16 hv16 hm16 => ?_)
        refine lv_aload_n hx hb dX9_hasAsNow_19 rfl (lv_at hl 0 rfl) ?_
        refine ti_getr hx hb hts inlX9 hown hK hT ha0 rfl rfl rfl 1 (by decide) (hts _ kw_20) (fun _ h9 => h9) rfl dX9_hasAsNow_20 (fun v20 hv20 hm20 => ?_)
        refine ti_getr hx hb hts inlX7 hown hK hT hv20 rfl rfl rfl 8 (by decide) (hts _ kw_471) (fun _ h9 => h9) rfl dX9_hasAsNow_23 (fun v23 hv23 hm23 => ?_)
        refine lv_iload_n hx hb dX9_hasAsNow_26 rfl (lv_at hl 2 rfl) ?_
        refine ti_aald hx hb (aT6 hK) hT hv23 rfl hj2_L2_7l (by decide) (fun _ _ _ => rfl) dX9_hasAsNow_27 (fun v27 hv27 => ?_)
        refine ti_geti hx hb hts inlX3 hown hK hT hv27 rfl rfl rfl 0 (by decide) (hts _ kw_472) (fun _ h9 => h9) rfl dX9_hasAsNow_28 (fun v28 hv28 hm28 => ?_)
        refine lv_icmp_eq (tgt := 36) hx hb dX9_hasAsNow_31 (by decide) (fun c31 => ?_) (fun c31 => ?_)
        · skip
          have f31 := i_eq c31
          obtain ⟨v36, e36⟩ : ∃ y : Int32, y = j2_L2 + 1 := ⟨_, rfl⟩
          have hv36 : iv v36 1 8 := by rw [e36]; exact iv_w (iv_add hj2_L2_7l (iv_c (x := (1 : Int32)) (k := 1) (by decide)) (by decide)) (by decide)
          have s36 : v36.toInt = j2_L2.toInt + 1 := by rw [e36, iv_addE hj2_L2_7l (iv_c (x := (1 : Int32)) (k := 1) (by decide)) (by decide)]; rfl
          refine lv_iinc (v := v36) (lv' := [(2, .int v36), (0, .ref a0), (1, .ref a1)]) hx hb dX9_hasAsNow_36 hl (k := 2) rfl (by rw [e36]; rfl) (by decide) rfl (fun ls hl => ?_)
          refine lv_goto (tgt := 2) hx hb dX9_hasAsNow_39 (by decide) ?_
          exact ih2 v36 _ _ (ms_up hms2 (by have := s36; omega) (iv_w (c := 1) (d := 8) hv36 (by decide)).2) (iv_w hv36 (by decide))  hS (lv_sub hl [1, 2, 0] rfl)
        · skip
          have f31 := i_ne c31
          refine lv_iconst (v := 0) hx hb dX9_hasAsNow_34 (by decide) ?_
          exact ret _ _ _ _ _ dX9_hasAsNow_35 (iv_w (iv_c (x := (0 : Int32)) (k := 0) (by decide)) (by decide)) (⟨rfl, iv_w (iv_c (x := (0 : Int32)) (k := 0) (by decide)) (by decide)⟩) hS
  refine lv_istore_n (lv' := [(2, .int (0 : Int32)), (0, .ref a0), (1, .ref a1)]) hx hb dX9_hasAsNow_1 rfl hl (by decide) rfl (fun ls hl => ?_)
  exact J2 _ (0 : Int32) _ _ (Nat.lt_succ_self _) (iv_w (iv_c (x := (0 : Int32)) (k := 0) (by decide)) (by decide))  hS (lv_sub hl [1, 2, 0] rfl)
set_option maxHeartbeats 4000000 in
set_option maxRecDepth 100000 in
theorem t_X9_again (l : Launch) {D : va_G} {c0 : Nat → ClassId} {Y : Nat → Option Nat} {ν : Nat → Nat} {H : Heap} (hT : TI D vwCl (tysOf c0) (RTg ν) Y H) {a0 : Nat} (ha0 : Y a0 = some 9) {x1 : Int32} (hx1 : iv x1 (-2147483648) 2147483647) : Met l yX9_again (wz yX9_again cX9_again 4 (some .int)) { frames := 6, cells := 0, slots := 0, locals := 166 } (TP D vwCl (tysOf c0) H [.ref a0, .int x1]) (TQi (fun x H' => TI D vwCl (tysOf c0) (RTg ν) Y H' ∧ iv x (-2) 30) Y [0, 1, 2, 3, 4, 7, 8, 20, 22, 28, 29]) 0 0 (pW Y [0, 1, 2, 3, 4, 7, 8, 20, 22, 28, 29]) := by
  refine Met.ofW (cc := cX9_again) (maxL := 4) (ret := (some .int)) (by decide) rfl ?_
  intro p e s m args below meth c s₁ B hml hv
  obtain ⟨rfl, rfl, hK⟩ := hv
  have hx := B.exec
  have hb := B.bytes
  have hr := B.returns
  have hts : ∀ w ∈ wq, w.before _ s = true := fun w h => atoms_spec (ws := wz yX9_again cX9_again 4 (some .int)) B.pre w (List.mem_cons_of_mem _ h)
  have hown : s.vm.findClass RX9 = some m.cls := findClass_of_methodNamed B.named
  have hlocks := B.notSynchronized
  obtain ⟨R, hR⟩ : ∃ R : Room, R = ({ frames := 6, cells := 0, slots := 0, locals := 166 } : Room) := ⟨_, rfl⟩
  rw [show (headSpec (wz yX9_again cX9_again 4 (some .int)) { frames := 6, cells := 0, slots := 0, locals := 166 }).room = R from hR.symm]
  refine ti_mi hx hb hr hlocks (fun Q ret => ?_)
  have hl := lv_entry [.ref a0, .int x1] (n := 4) (Nat.le_of_ble_eq_true rfl)
  rw [lg_entry_eq]
  generalize (lg_sl [.ref a0, .int x1] ++ List.replicate (4 - (lg_sl [.ref a0, .int x1]).length) Slot.unset).toArray = ls at hl ⊢
  have hl : lv_has ls 4 [(0, .ref a0), (1, .int x1)] := hl
  refine ti_gen (P := fun H => TI D vwCl (tysOf c0) (RTg ν) Y H) (Y := Y) (ws := [0, 1, 2, 3, 4, 7, 8, 20, 22, 28, 29]) hT (fun H locs hT hS => ?_)
  refine lv_aload_n hx hb dX9_again_0 rfl (lv_at hl 0 rfl) ?_
  refine lv_iload_n hx hb dX9_again_1 rfl (lv_at hl 1 rfl) ?_
  refine ti_calli (va_runV (As := [.int x1]) (rest := []) ⟨hx, hb, hml, hown, hts⟩ (t_X9_canPass l hT ha0 (iv_w hx1 (by decide))) (cwV 1 hts (good_V kw_833 kw_834 kw_835 kw_2 kw_836) rfl rfl rfl (by decide +kernel) ⟨by rw [hR]; decide, by rw [hR]; decide⟩) (ti_preV hK hT ha0 rfl rfl) rfl rfl hl.1 rfl (lv_room (Nat.le_of_ble_eq_true rfl)) dX9_again_2 ⟨Nat.zero_le _, Nat.zero_le _⟩) hS (pW_sub rfl) (fun v2 H1 locs hB hS _ hk2 => ?_)
  obtain ⟨hH, hv2, hp2⟩ := hB
  rw [hH] at hS ⊢
  refine lv_if_ne (tgt := 11) hx hb dX9_again_5 (by decide) (fun c5 => ?_) (fun c5 => ?_)
  · skip
    have kl0 : (0 : Int32).toInt = 0 := by decide
    have f5 := i_ne c5
    have hv2_5l : iv v2 1 1 := iv_nel hv2 (iv_c (x := (0 : Int32)) (k := 0) (by decide)) c5 (by decide)
    have hx1_5p : iv x1 1 30 := by have b0a := (hx1).1; have b0b := (hx1).2; exact ⟨by omega, by omega⟩
    refine lv_aload_n hx hb dX9_again_11 rfl (lv_at hl 0 rfl) ?_
    refine ti_callr (va_runV (As := []) (rest := []) ⟨hx, hb, hml, hown, hts⟩ (t_X9_startThought l hT ha0) (cwV 0 hts (good_V kw_802 kw_803 kw_804 kw_2 kw_805) rfl rfl rfl (by decide +kernel) ⟨by rw [hR]; decide, by rw [hR]; decide⟩) (ti_preV hK hT ha0 rfl rfl) rfl rfl hl.1 rfl (lv_room (Nat.le_of_ble_eq_true rfl)) dX9_again_12 ⟨Nat.zero_le _, Nat.zero_le _⟩) hS (pW_sub rfl) (fun v12 H locs hB hS _ hk12 => ?_)
    obtain ⟨hT, hv12⟩ := hB
    refine lv_astore_n (lv' := [(2, .ref v12), (0, .ref a0), (1, .int x1)]) hx hb dX9_again_15 rfl hl (by decide) rfl (fun ls hl => ?_)
    refine lv_iconst (v := 1) hx hb dX9_again_16 (by decide) ?_
    have J18 : ∀ (n : Nat) (j18_L3 : Int32) (H : Heap) (locs : List Loc) (ls : Array Slot), (31 - j18_L3.toInt).toNat < n → iv j18_L3 1 31 → TI D vwCl (tysOf c0) (RTg ν) Y H → va_S (pW Y [0, 1, 2, 3, 4, 7, 8, 20, 22, 28, 29]) s.heap H locs → lv_has ls 4 [(0, .ref a0), (1, .int x1), (2, .ref v12), (3, .int j18_L3)] → W p l e R s m ([.ref a0, .int x1] : List Value).toArray below meth c H locs 0 0 Q (F0 m 18 ls []) := by
      intro n
      induction n with
      | zero => intro j18_L3 H locs ls hms; exact absurd hms (Nat.not_lt_zero _)
      | succ n ih18 =>
        intro j18_L3 H locs ls hms18 hj18_L3 hT hS hl
        refine lv_iload_n hx hb dX9_again_18 rfl (lv_at hl 3 rfl) ?_
        refine lv_iload_n hx hb dX9_again_19 rfl (lv_at hl 1 rfl) ?_
        refine lv_icmp_gt (tgt := 48) hx hb dX9_again_20 (by decide) (fun c20 => ?_) (fun c20 => ?_)
        · skip
          have f20 := i_lt c20
          have hj18_L3_20r : iv j18_L3 2 31 := iv_ltr hx1_5p hj18_L3 c20 (by decide)
          refine lv_iconst (v := (-1)) hx hb dX9_again_48 (by decide) ?_
          exact ret _ _ _ _ _ dX9_again_49 (⟨hT, iv_w (iv_c (x := (-1 : Int32)) (k := (-1)) (by decide)) (by decide)⟩) hS
        · skip
          have f20 := i_nlt c20
          have hj18_L3_20l : iv j18_L3 1 30 := iv_lel hj18_L3 hx1_5p (Int32.not_lt.mp c20) (by decide)
          refine lv_aload_n hx hb dX9_again_23 rfl (lv_at hl 0 rfl) ?_
          refine ti_getr hx hb hts inlX9 hown hK hT ha0 rfl rfl rfl 8 (by decide) (hts _ kw_38) (fun _ h9 => h9) rfl dX9_again_24 (fun v24 hv24 hm24 => ?_)
          refine lv_aload_n hx hb dX9_again_27 rfl (lv_at hl 2 rfl) ?_
          refine lv_iconst (v := 1) hx hb dX9_again_28 (by decide) ?_
          refine ti_callv (va_runV (As := [.ref v12, .int (1 : Int32)]) (rest := []) ⟨hx, hb, hml, hown, hts⟩ (t_X8_pass l hT hv24 hv12 (iv_w (iv_c (x := (1 : Int32)) (k := 1) (by decide)) (by decide))) (cwV 2 hts (good_V kw_840 kw_841 kw_842 kw_37 kw_843) rfl rfl rfl (by decide +kernel) ⟨by rw [hR]; decide, by rw [hR]; decide⟩) (ti_preV hK hT hv24 rfl rfl) rfl rfl hl.1 rfl (lv_room (Nat.le_of_ble_eq_true rfl)) dX9_again_29 ⟨Nat.zero_le _, Nat.zero_le _⟩) hS (pW_sub rfl) (fun H locs hB hS _ hk29 => ?_)
          have hT := hB
          refine lv_aload_n hx hb dX9_again_32 rfl (lv_at hl 0 rfl) ?_
          refine lv_aload_n hx hb dX9_again_33 rfl (lv_at hl 2 rfl) ?_
          refine ti_calli (va_runV (As := [.ref v12]) (rest := []) ⟨hx, hb, hml, hown, hts⟩ (t_X9_hasAsNow l hT ha0 hv12) (cwV 1 hts (good_V kw_1390 kw_1391 kw_1392 kw_2 kw_1393) rfl rfl rfl (by decide +kernel) ⟨by rw [hR]; decide, by rw [hR]; decide⟩) (ti_preV hK hT ha0 rfl rfl) rfl rfl hl.1 rfl (lv_room (Nat.le_of_ble_eq_true rfl)) dX9_again_34 ⟨Nat.zero_le _, Nat.zero_le _⟩) hS (pW_sub rfl) (fun v34 H1 locs hB hS _ hk34 => ?_)
          obtain ⟨hH, hv34⟩ := hB
          rw [hH] at hS ⊢
          refine lv_if_eq (tgt := 42) hx hb dX9_again_37 (by decide) (fun c37 => ?_) (fun c37 => ?_)
          · skip
            have f37 := i_eq c37
            have hv34_37l : iv v34 0 0 := iv_eql hv34 (iv_c (x := (0 : Int32)) (k := 0) (by decide)) c37 (by decide)
            obtain ⟨v42, e42⟩ : ∃ y : Int32, y = j18_L3 + 1 := ⟨_, rfl⟩
            have hv42 : iv v42 2 31 := by rw [e42]; exact iv_w (iv_add hj18_L3_20l (iv_c (x := (1 : Int32)) (k := 1) (by decide)) (by decide)) (by decide)
            have s42 : v42.toInt = j18_L3.toInt + 1 := by rw [e42, iv_addE hj18_L3_20l (iv_c (x := (1 : Int32)) (k := 1) (by decide)) (by decide)]; rfl
            refine lv_iinc (v := v42) (lv' := [(3, .int v42), (0, .ref a0), (1, .int x1), (2, .ref v12)]) hx hb dX9_again_42 hl (k := 3) rfl (by rw [e42]; rfl) (by decide) rfl (fun ls hl => ?_)
            refine lv_goto (tgt := 18) hx hb dX9_again_45 (by decide) ?_
            exact ih18 v42 _ _ _ (ms_up hms18 (by have := s42; omega) (iv_w (c := 2) (d := 31) hv42 (by decide)).2) (iv_w hv42 (by decide)) hT hS (lv_sub hl [1, 2, 3, 0] rfl)
          · skip
            have f37 := i_ne c37
            have hv34_37l : iv v34 1 1 := iv_nel hv34 (iv_c (x := (0 : Int32)) (k := 0) (by decide)) c37 (by decide)
            refine lv_iload_n hx hb dX9_again_40 rfl (lv_at hl 3 rfl) ?_
            exact ret _ _ _ _ _ dX9_again_41 (⟨hT, iv_w hj18_L3_20l (by decide)⟩) hS
    refine lv_istore_n (lv' := [(3, .int (1 : Int32)), (2, .ref v12), (0, .ref a0), (1, .int x1)]) hx hb dX9_again_17 rfl hl (by decide) rfl (fun ls hl => ?_)
    exact J18 _ (1 : Int32) _ _ _ (Nat.lt_succ_self _) (iv_w (iv_c (x := (1 : Int32)) (k := 1) (by decide)) (by decide)) hT hS (lv_sub hl [2, 3, 1, 0] rfl)
  · skip
    have kl0 : (0 : Int32).toInt = 0 := by decide
    have f5 := i_eq c5
    have hv2_5l : iv v2 0 0 := iv_eql hv2 (iv_c (x := (0 : Int32)) (k := 0) (by decide)) c5 (by decide)
    refine lv_bipush (v := (-2)) hx hb dX9_again_8 (by decide) ?_
    exact ret _ _ _ _ _ dX9_again_10 (⟨hT, iv_w (iv_c (x := (-2 : Int32)) (k := (-2)) (by decide)) (by decide)⟩) hS
set_option maxHeartbeats 4000000 in
set_option maxRecDepth 100000 in
theorem t_X9_alike (l : Launch) {D : va_G} {c0 : Nat → ClassId} {Y : Nat → Option Nat} {ν : Nat → Nat} {H : Heap} (hT : TI D vwCl (tysOf c0) (RTg ν) Y H) {a0 : Nat} (ha0 : Y a0 = some 9) {x1 : Int32} (hx1 : iv x1 (-2147483648) 2147483647) : Met l yX9_alike (wz yX9_alike cX9_alike 4 (some .int)) { frames := 6, cells := 0, slots := 0, locals := 166 } (TP D vwCl (tysOf c0) H [.ref a0, .int x1]) (TQi (fun x H' => TI D vwCl (tysOf c0) (RTg ν) Y H' ∧ iv x (-2) 30) Y [0, 1, 2, 3, 4, 7, 8, 20, 22, 28, 29]) 0 0 (pW Y [0, 1, 2, 3, 4, 7, 8, 20, 22, 28, 29]) := by
  refine Met.ofW (cc := cX9_alike) (maxL := 4) (ret := (some .int)) (by decide) rfl ?_
  intro p e s m args below meth c s₁ B hml hv
  obtain ⟨rfl, rfl, hK⟩ := hv
  have hx := B.exec
  have hb := B.bytes
  have hr := B.returns
  have hts : ∀ w ∈ wq, w.before _ s = true := fun w h => atoms_spec (ws := wz yX9_alike cX9_alike 4 (some .int)) B.pre w (List.mem_cons_of_mem _ h)
  have hown : s.vm.findClass RX9 = some m.cls := findClass_of_methodNamed B.named
  have hlocks := B.notSynchronized
  obtain ⟨R, hR⟩ : ∃ R : Room, R = ({ frames := 6, cells := 0, slots := 0, locals := 166 } : Room) := ⟨_, rfl⟩
  rw [show (headSpec (wz yX9_alike cX9_alike 4 (some .int)) { frames := 6, cells := 0, slots := 0, locals := 166 }).room = R from hR.symm]
  refine ti_mi hx hb hr hlocks (fun Q ret => ?_)
  have hl := lv_entry [.ref a0, .int x1] (n := 4) (Nat.le_of_ble_eq_true rfl)
  rw [lg_entry_eq]
  generalize (lg_sl [.ref a0, .int x1] ++ List.replicate (4 - (lg_sl [.ref a0, .int x1]).length) Slot.unset).toArray = ls at hl ⊢
  have hl : lv_has ls 4 [(0, .ref a0), (1, .int x1)] := hl
  refine ti_gen (P := fun H => TI D vwCl (tysOf c0) (RTg ν) Y H) (Y := Y) (ws := [0, 1, 2, 3, 4, 7, 8, 20, 22, 28, 29]) hT (fun H locs hT hS => ?_)
  refine lv_aload_n hx hb dX9_alike_0 rfl (lv_at hl 0 rfl) ?_
  refine lv_iload_n hx hb dX9_alike_1 rfl (lv_at hl 1 rfl) ?_
  refine ti_calli (va_runV (As := [.int x1]) (rest := []) ⟨hx, hb, hml, hown, hts⟩ (t_X9_canPass l hT ha0 (iv_w hx1 (by decide))) (cwV 1 hts (good_V kw_833 kw_834 kw_835 kw_2 kw_836) rfl rfl rfl (by decide +kernel) ⟨by rw [hR]; decide, by rw [hR]; decide⟩) (ti_preV hK hT ha0 rfl rfl) rfl rfl hl.1 rfl (lv_room (Nat.le_of_ble_eq_true rfl)) dX9_alike_2 ⟨Nat.zero_le _, Nat.zero_le _⟩) hS (pW_sub rfl) (fun v2 H1 locs hB hS _ hk2 => ?_)
  obtain ⟨hH, hv2, hp2⟩ := hB
  rw [hH] at hS ⊢
  refine lv_if_ne (tgt := 11) hx hb dX9_alike_5 (by decide) (fun c5 => ?_) (fun c5 => ?_)
  · skip
    have kl0 : (0 : Int32).toInt = 0 := by decide
    have f5 := i_ne c5
    have hv2_5l : iv v2 1 1 := iv_nel hv2 (iv_c (x := (0 : Int32)) (k := 0) (by decide)) c5 (by decide)
    have hx1_5p : iv x1 1 30 := by have b0a := (hx1).1; have b0b := (hx1).2; exact ⟨by omega, by omega⟩
    refine lv_aload_n hx hb dX9_alike_11 rfl (lv_at hl 0 rfl) ?_
    refine ti_callr (va_runV (As := []) (rest := []) ⟨hx, hb, hml, hown, hts⟩ (t_X9_startThought l hT ha0) (cwV 0 hts (good_V kw_802 kw_803 kw_804 kw_2 kw_805) rfl rfl rfl (by decide +kernel) ⟨by rw [hR]; decide, by rw [hR]; decide⟩) (ti_preV hK hT ha0 rfl rfl) rfl rfl hl.1 rfl (lv_room (Nat.le_of_ble_eq_true rfl)) dX9_alike_12 ⟨Nat.zero_le _, Nat.zero_le _⟩) hS (pW_sub rfl) (fun v12 H locs hB hS _ hk12 => ?_)
    obtain ⟨hT, hv12⟩ := hB
    refine lv_astore_n (lv' := [(2, .ref v12), (0, .ref a0), (1, .int x1)]) hx hb dX9_alike_15 rfl hl (by decide) rfl (fun ls hl => ?_)
    refine lv_iconst (v := 1) hx hb dX9_alike_16 (by decide) ?_
    have J18 : ∀ (n : Nat) (j18_L3 : Int32) (H : Heap) (locs : List Loc) (ls : Array Slot), (31 - j18_L3.toInt).toNat < n → iv j18_L3 1 31 → TI D vwCl (tysOf c0) (RTg ν) Y H → va_S (pW Y [0, 1, 2, 3, 4, 7, 8, 20, 22, 28, 29]) s.heap H locs → lv_has ls 4 [(0, .ref a0), (1, .int x1), (2, .ref v12), (3, .int j18_L3)] → W p l e R s m ([.ref a0, .int x1] : List Value).toArray below meth c H locs 0 0 Q (F0 m 18 ls []) := by
      intro n
      induction n with
      | zero => intro j18_L3 H locs ls hms; exact absurd hms (Nat.not_lt_zero _)
      | succ n ih18 =>
        intro j18_L3 H locs ls hms18 hj18_L3 hT hS hl
        refine lv_iload_n hx hb dX9_alike_18 rfl (lv_at hl 3 rfl) ?_
        refine lv_iload_n hx hb dX9_alike_19 rfl (lv_at hl 1 rfl) ?_
        refine lv_icmp_gt (tgt := 47) hx hb dX9_alike_20 (by decide) (fun c20 => ?_) (fun c20 => ?_)
        · skip
          have f20 := i_lt c20
          have hj18_L3_20r : iv j18_L3 2 31 := iv_ltr hx1_5p hj18_L3 c20 (by decide)
          refine lv_iconst (v := (-1)) hx hb dX9_alike_47 (by decide) ?_
          exact ret _ _ _ _ _ dX9_alike_48 (⟨hT, iv_w (iv_c (x := (-1 : Int32)) (k := (-1)) (by decide)) (by decide)⟩) hS
        · skip
          have f20 := i_nlt c20
          have hj18_L3_20l : iv j18_L3 1 30 := iv_lel hj18_L3 hx1_5p (Int32.not_lt.mp c20) (by decide)
          refine lv_aload_n hx hb dX9_alike_23 rfl (lv_at hl 0 rfl) ?_
          refine ti_getr hx hb hts inlX9 hown hK hT ha0 rfl rfl rfl 8 (by decide) (hts _ kw_38) (fun _ h9 => h9) rfl dX9_alike_24 (fun v24 hv24 hm24 => ?_)
          refine lv_aload_n hx hb dX9_alike_27 rfl (lv_at hl 2 rfl) ?_
          refine lv_iconst (v := 1) hx hb dX9_alike_28 (by decide) ?_
          refine ti_callv (va_runV (As := [.ref v12, .int (1 : Int32)]) (rest := []) ⟨hx, hb, hml, hown, hts⟩ (t_X8_pass l hT hv24 hv12 (iv_w (iv_c (x := (1 : Int32)) (k := 1) (by decide)) (by decide))) (cwV 2 hts (good_V kw_840 kw_841 kw_842 kw_37 kw_843) rfl rfl rfl (by decide +kernel) ⟨by rw [hR]; decide, by rw [hR]; decide⟩) (ti_preV hK hT hv24 rfl rfl) rfl rfl hl.1 rfl (lv_room (Nat.le_of_ble_eq_true rfl)) dX9_alike_29 ⟨Nat.zero_le _, Nat.zero_le _⟩) hS (pW_sub rfl) (fun H locs hB hS _ hk29 => ?_)
          have hT := hB
          refine lv_aload_n hx hb dX9_alike_32 rfl (lv_at hl 2 rfl) ?_
          refine ti_calli (va_runV (As := []) (rest := []) ⟨hx, hb, hml, hown, hts⟩ (t_X7_spreadOut l hT hv12) (cwV 0 hts (good_V kw_1174 kw_1175 kw_1176 kw_19 kw_1177) rfl rfl rfl (by decide +kernel) ⟨by rw [hR]; decide, by rw [hR]; decide⟩) (ti_preV hK hT hv12 rfl rfl) rfl rfl hl.1 rfl (lv_room (Nat.le_of_ble_eq_true rfl)) dX9_alike_33 ⟨Nat.zero_le _, Nat.zero_le _⟩) hS (pW_sub rfl) (fun v33 H1 locs hB hS _ hk33 => ?_)
          have hH := hB
          rw [hH] at hS ⊢
          refine lv_if_ne (tgt := 41) hx hb dX9_alike_36 (by decide) (fun c36 => ?_) (fun c36 => ?_)
          · skip
            have f36 := i_ne c36
            obtain ⟨v41, e41⟩ : ∃ y : Int32, y = j18_L3 + 1 := ⟨_, rfl⟩
            have hv41 : iv v41 2 31 := by rw [e41]; exact iv_w (iv_add hj18_L3_20l (iv_c (x := (1 : Int32)) (k := 1) (by decide)) (by decide)) (by decide)
            have s41 : v41.toInt = j18_L3.toInt + 1 := by rw [e41, iv_addE hj18_L3_20l (iv_c (x := (1 : Int32)) (k := 1) (by decide)) (by decide)]; rfl
            refine lv_iinc (v := v41) (lv' := [(3, .int v41), (0, .ref a0), (1, .int x1), (2, .ref v12)]) hx hb dX9_alike_41 hl (k := 3) rfl (by rw [e41]; rfl) (by decide) rfl (fun ls hl => ?_)
            refine lv_goto (tgt := 18) hx hb dX9_alike_44 (by decide) ?_
            exact ih18 v41 _ _ _ (ms_up hms18 (by have := s41; omega) (iv_w (c := 2) (d := 31) hv41 (by decide)).2) (iv_w hv41 (by decide)) hT hS (lv_sub hl [1, 2, 3, 0] rfl)
          · skip
            have f36 := i_eq c36
            have hv33_36l : iv v33 0 0 := iv_eql (iv_top v33) (iv_c (x := (0 : Int32)) (k := 0) (by decide)) c36 (by decide)
            refine lv_iload_n hx hb dX9_alike_39 rfl (lv_at hl 3 rfl) ?_
            exact ret _ _ _ _ _ dX9_alike_40 (⟨hT, iv_w hj18_L3_20l (by decide)⟩) hS
    refine lv_istore_n (lv' := [(3, .int (1 : Int32)), (2, .ref v12), (0, .ref a0), (1, .int x1)]) hx hb dX9_alike_17 rfl hl (by decide) rfl (fun ls hl => ?_)
    exact J18 _ (1 : Int32) _ _ _ (Nat.lt_succ_self _) (iv_w (iv_c (x := (1 : Int32)) (k := 1) (by decide)) (by decide)) hT hS (lv_sub hl [2, 3, 1, 0] rfl)
  · skip
    have kl0 : (0 : Int32).toInt = 0 := by decide
    have f5 := i_eq c5
    have hv2_5l : iv v2 0 0 := iv_eql hv2 (iv_c (x := (0 : Int32)) (k := 0) (by decide)) c5 (by decide)
    refine lv_bipush (v := (-2)) hx hb dX9_alike_8 (by decide) ?_
    exact ret _ _ _ _ _ dX9_alike_10 (⟨hT, iv_w (iv_c (x := (-2 : Int32)) (k := (-2)) (by decide)) (by decide)⟩) hS
set_option maxHeartbeats 4000000 in
set_option maxRecDepth 100000 in
theorem t_X9_tellsWays (l : Launch) {D : va_G} {c0 : Nat → ClassId} {Y : Nat → Option Nat} {ν : Nat → Nat} {H : Heap} (hT : TI D vwCl (tysOf c0) (RTg ν) Y H) {a0 : Nat} (ha0 : Y a0 = some 9) {a1 : Nat} (ha1 : Y a1 = some 5) : Met l yX9_tellsWays (wz yX9_tellsWays cX9_tellsWays 3 (some .boolean)) { frames := 1, cells := 0, slots := 0, locals := 21 } (TP D vwCl (tysOf c0) H [.ref a0, .ref a1]) (TQi (fun x H' => H' = H ∧ iv x 0 1) Y []) 0 0 (pW Y []) := by
  refine Met.ofW (cc := cX9_tellsWays) (maxL := 3) (ret := (some .boolean)) (by decide) rfl ?_
  intro p e s m args below meth c s₁ B hml hv
  obtain ⟨rfl, rfl, hK⟩ := hv
  have hx := B.exec
  have hb := B.bytes
  have hr := B.returns
  have hts : ∀ w ∈ wq, w.before _ s = true := fun w h => atoms_spec (ws := wz yX9_tellsWays cX9_tellsWays 3 (some .boolean)) B.pre w (List.mem_cons_of_mem _ h)
  have hown : s.vm.findClass RX9 = some m.cls := findClass_of_methodNamed B.named
  have hlocks := B.notSynchronized
  obtain ⟨R, hR⟩ : ∃ R : Room, R = ({ frames := 1, cells := 0, slots := 0, locals := 21 } : Room) := ⟨_, rfl⟩
  rw [show (headSpec (wz yX9_tellsWays cX9_tellsWays 3 (some .boolean)) { frames := 1, cells := 0, slots := 0, locals := 21 }).room = R from hR.symm]
  refine ti_mz hx hb hr hlocks (fun Q ret => ?_)
  have hl := lv_entry [.ref a0, .ref a1] (n := 3) (Nat.le_of_ble_eq_true rfl)
  rw [lg_entry_eq]
  generalize (lg_sl [.ref a0, .ref a1] ++ List.replicate (3 - (lg_sl [.ref a0, .ref a1]).length) Slot.unset).toArray = ls at hl ⊢
  have hl : lv_has ls 3 [(0, .ref a0), (1, .ref a1)] := hl
  have hS : va_S (pW Y []) s.heap s.heap [] := va_S.rf
  refine lv_aload_n hx hb dX9_tellsWays_0 rfl (lv_at hl 1 rfl) ?_
  refine ti_geti hx hb hts inlX5 hown hK hT ha1 rfl rfl rfl 0 (by decide) (hts _ kw_799) (fun _ h9 => h9) rfl dX9_tellsWays_1 (fun v1 hv1 hm1 => ?_)
  refine lv_if_eq (tgt := 24) hx hb dX9_tellsWays_4 (by decide) (fun c4 => ?_) (fun c4 => ?_)
  · skip
    have kl0 : (0 : Int32).toInt = 0 := by decide
    have f4 := i_eq c4
    have hv1_4l : iv v1 0 0 := iv_eql hv1 (iv_c (x := (0 : Int32)) (k := 0) (by decide)) c4 (by decide)
    refine lv_iconst (v := 0) hx hb dX9_tellsWays_24 (by decide) ?_
    exact ret _ _ _ _ _ dX9_tellsWays_25 (iv_w (iv_c (x := (0 : Int32)) (k := 0) (by decide)) (by decide)) (⟨rfl, iv_w (iv_c (x := (0 : Int32)) (k := 0) (by decide)) (by decide)⟩) hS
  · skip
    have kl0 : (0 : Int32).toInt = 0 := by decide
    have f4 := i_ne c4
    have hv1_4l : iv v1 1 1 := iv_nel hv1 (iv_c (x := (0 : Int32)) (k := 0) (by decide)) c4 (by decide)
    refine lv_aload_n hx hb dX9_tellsWays_7 rfl (lv_at hl 1 rfl) ?_
    refine ti_geti hx hb hts inlX5 hown hK hT ha1 rfl rfl rfl 2 (by decide) (hts _ kw_800) (fun _ h9 => h9) rfl dX9_tellsWays_8 (fun v8 hv8 hm8 => ?_)
    refine lv_iconst (v := 1) hx hb dX9_tellsWays_11 (by decide) ?_
    refine lv_icmp_lt (tgt := 24) hx hb dX9_tellsWays_12 (by decide) (fun c12 => ?_) (fun c12 => ?_)
    · skip
      have kl1 : (1 : Int32).toInt = 1 := by decide
      have f12 := i_lt c12
      have hv8_12l : iv v8 0 0 := iv_ltl hv8 (iv_c (x := (1 : Int32)) (k := 1) (by decide)) c12 (by decide)
      refine lv_iconst (v := 0) hx hb dX9_tellsWays_24 (by decide) ?_
      exact ret _ _ _ _ _ dX9_tellsWays_25 (iv_w (iv_c (x := (0 : Int32)) (k := 0) (by decide)) (by decide)) (⟨rfl, iv_w (iv_c (x := (0 : Int32)) (k := 0) (by decide)) (by decide)⟩) hS
    · skip
      have kl1 : (1 : Int32).toInt = 1 := by decide
      have f12 := i_nlt c12
      have hv8_12r : iv v8 1 60 := iv_ler (iv_c (x := (1 : Int32)) (k := 1) (by decide)) hv8 (Int32.not_lt.mp c12) (by decide)
      refine lv_aload_n hx hb dX9_tellsWays_15 rfl (lv_at hl 1 rfl) ?_
      refine ti_getE (ci := 5) (v := .int v8) hx hb hts inlX5 hown hK hm8 rfl (by decide) (hts _ kw_800) (fun _ h9 => h9) dX9_tellsWays_16 ?_
      refine lv_bipush (v := 30) hx hb dX9_tellsWays_19 (by decide) ?_
      refine lv_icmp_le (tgt := 26) hx hb dX9_tellsWays_21 (by decide) (fun c21 => ?_) (fun c21 => ?_)
      · skip
        have kl30 : (30 : Int32).toInt = 30 := by decide
        have f21 := i_le c21
        have hv8_21l : iv v8 1 30 := iv_lel hv8_12r (iv_c (x := (30 : Int32)) (k := 30) (by decide)) c21 (by decide)
        refine lv_iconst (v := 0) hx hb dX9_tellsWays_26 (by decide) ?_
        have J28 : ∀ (n : Nat) (j28_L2 : Int32) (locs : List Loc) (ls : Array Slot), (30 - j28_L2.toInt).toNat < n → iv j28_L2 0 30 → va_S (pW Y []) s.heap s.heap locs → lv_has ls 3 [(0, .ref a0), (1, .ref a1), (2, .int j28_L2)] → W p l e R s m ([.ref a0, .ref a1] : List Value).toArray below meth c s.heap locs 0 0 Q (F0 m 28 ls []) := by
          intro n
          induction n with
          | zero => intro j28_L2 locs ls hms; exact absurd hms (Nat.not_lt_zero _)
          | succ n ih28 =>
            intro j28_L2 locs ls hms28 hj28_L2 hS hl
            refine lv_iload_n hx hb dX9_tellsWays_28 rfl (lv_at hl 2 rfl) ?_
            refine lv_aload_n hx hb dX9_tellsWays_29 rfl (lv_at hl 1 rfl) ?_
            refine ti_getE (ci := 5) (v := .int v8) hx hb hts inlX5 hown hK hm8 rfl (by decide) (hts _ kw_800) (fun _ h9 => h9) dX9_tellsWays_30 ?_
            refine lv_icmp_ge (tgt := 56) hx hb dX9_tellsWays_33 (by decide) (fun c33 => ?_) (fun c33 => ?_)
            · skip
              have f33 := i_le c33
              have hj28_L2_33r : iv j28_L2 1 30 := iv_ler hv8_21l hj28_L2 c33 (by decide)
              refine lv_iconst (v := 1) hx hb dX9_tellsWays_56 (by decide) ?_
              exact ret _ _ _ _ _ dX9_tellsWays_57 (iv_w (iv_c (x := (1 : Int32)) (k := 1) (by decide)) (by decide)) (⟨rfl, iv_w (iv_c (x := (1 : Int32)) (k := 1) (by decide)) (by decide)⟩) hS
            · skip
              have f33 := i_nle c33
              have hj28_L2_33l : iv j28_L2 0 29 := iv_ltl hj28_L2 hv8_21l (Int32.not_le.mp c33) (by decide)
              refine lv_aload_n hx hb dX9_tellsWays_36 rfl (lv_at hl 1 rfl) ?_
              refine ti_getr hx hb hts inlX5 hown hK hT ha1 rfl rfl rfl 3 (by decide) (hts _ kw_801) (fun _ h9 => h9) rfl dX9_tellsWays_37 (fun v37 hv37 hm37 => ?_)
              refine lv_iload_n hx hb dX9_tellsWays_40 rfl (lv_at hl 2 rfl) ?_
              refine ti_lald hx hb (aT3 hK) hT hv37 rfl hj28_L2_33l (by decide) (fun _ _ _ => rfl) dX9_tellsWays_41 (fun v41 hm41 => ?_)
              refine ti_calli (va_runS (As := [.long v41]) (rest := []) ⟨hx, hb, hml, hown, hts⟩ (t_X9_isWay l hT (jv_top v41)) (cwS 1 hts (good_S kw_1111 kw_1112 kw_2 kw_1113) rfl rfl rfl (by decide +kernel) ⟨by rw [hR]; decide, by rw [hR]; decide⟩) (ti_preS hK) rfl rfl hl.1 rfl (lv_room (Nat.le_of_ble_eq_true rfl)) dX9_tellsWays_42 ⟨Nat.zero_le _, Nat.zero_le _⟩) hS (pW_sub rfl) (fun v42 H1 locs hB hS _ hk42 => ?_)
              obtain ⟨hH, hv42, hp42⟩ := hB
              rw [hH] at hS ⊢
              refine lv_if_ne (tgt := 50) hx hb dX9_tellsWays_45 (by decide) (fun c45 => ?_) (fun c45 => ?_)
              · skip
                have f45 := i_ne c45
                have hv42_45l : iv v42 1 1 := iv_nel hv42 (iv_c (x := (0 : Int32)) (k := 0) (by decide)) c45 (by decide)
                have hv41_45p : jv v41 0 5 := by have b0a := ((jv_top v41)).1; have b0b := ((jv_top v41)).2; exact ⟨by omega, by omega⟩
                obtain ⟨v50, e50⟩ : ∃ y : Int32, y = j28_L2 + 1 := ⟨_, rfl⟩
                have hv50 : iv v50 1 30 := by rw [e50]; exact iv_w (iv_add hj28_L2_33l (iv_c (x := (1 : Int32)) (k := 1) (by decide)) (by decide)) (by decide)
                have s50 : v50.toInt = j28_L2.toInt + 1 := by rw [e50, iv_addE hj28_L2_33l (iv_c (x := (1 : Int32)) (k := 1) (by decide)) (by decide)]; rfl
                refine lv_iinc (v := v50) (lv' := [(2, .int v50), (0, .ref a0), (1, .ref a1)]) hx hb dX9_tellsWays_50 hl (k := 2) rfl (by rw [e50]; rfl) (by decide) rfl (fun ls hl => ?_)
                refine lv_goto (tgt := 28) hx hb dX9_tellsWays_53 (by decide) ?_
                exact ih28 v50 _ _ (ms_up hms28 (by have := s50; omega) (iv_w (c := 1) (d := 30) hv50 (by decide)).2) (iv_w hv50 (by decide))  hS (lv_sub hl [1, 2, 0] rfl)
              · skip
                have f45 := i_eq c45
                have hv42_45l : iv v42 0 0 := iv_eql hv42 (iv_c (x := (0 : Int32)) (k := 0) (by decide)) c45 (by decide)
                refine lv_iconst (v := 0) hx hb dX9_tellsWays_48 (by decide) ?_
                exact ret _ _ _ _ _ dX9_tellsWays_49 (iv_w (iv_c (x := (0 : Int32)) (k := 0) (by decide)) (by decide)) (⟨rfl, iv_w (iv_c (x := (0 : Int32)) (k := 0) (by decide)) (by decide)⟩) hS
        refine lv_istore_n (lv' := [(2, .int (0 : Int32)), (0, .ref a0), (1, .ref a1)]) hx hb dX9_tellsWays_27 rfl hl (by decide) rfl (fun ls hl => ?_)
        exact J28 _ (0 : Int32) _ _ (Nat.lt_succ_self _) (iv_w (iv_c (x := (0 : Int32)) (k := 0) (by decide)) (by decide))  hS (lv_sub hl [1, 2, 0] rfl)
      · skip
        have kl30 : (30 : Int32).toInt = 30 := by decide
        have f21 := i_nle c21
        have hv8_21r : iv v8 31 60 := iv_ltr (iv_c (x := (30 : Int32)) (k := 30) (by decide)) hv8_12r (Int32.not_le.mp c21) (by decide)
        refine lv_iconst (v := 0) hx hb dX9_tellsWays_24 (by decide) ?_
        exact ret _ _ _ _ _ dX9_tellsWays_25 (iv_w (iv_c (x := (0 : Int32)) (k := 0) (by decide)) (by decide)) (⟨rfl, iv_w (iv_c (x := (0 : Int32)) (k := 0) (by decide)) (by decide)⟩) hS
set_option maxHeartbeats 4000000 in
set_option maxRecDepth 100000 in
theorem t_X9_follows (l : Launch) {D : va_G} {c0 : Nat → ClassId} {Y : Nat → Option Nat} {ν : Nat → Nat} {H : Heap} (hT : TI D vwCl (tysOf c0) (RTg ν) Y H) {a0 : Nat} (ha0 : Y a0 = some 9) {x1 : Int32} (hx1 : iv x1 (-2147483648) 2147483647) {x2 : Int32} (hx2 : iv x2 (-2147483648) 2147483647) : Met l yX9_follows (wz yX9_follows cX9_follows 6 (some .int)) { frames := 6, cells := 0, slots := 0, locals := 166 } (TP D vwCl (tysOf c0) H [.ref a0, .int x1, .int x2]) (TQi (fun x H' => TI D vwCl (tysOf c0) (RTg ν) Y H') Y [0, 1, 2, 3, 4, 7, 8, 20, 22, 28, 29]) 0 0 (pW Y [0, 1, 2, 3, 4, 7, 8, 20, 22, 28, 29]) := by
  refine Met.ofW (cc := cX9_follows) (maxL := 6) (ret := (some .int)) (by decide) rfl ?_
  intro p e s m args below meth c s₁ B hml hv
  obtain ⟨rfl, rfl, hK⟩ := hv
  have hx := B.exec
  have hb := B.bytes
  have hr := B.returns
  have hts : ∀ w ∈ wq, w.before _ s = true := fun w h => atoms_spec (ws := wz yX9_follows cX9_follows 6 (some .int)) B.pre w (List.mem_cons_of_mem _ h)
  have hown : s.vm.findClass RX9 = some m.cls := findClass_of_methodNamed B.named
  have hlocks := B.notSynchronized
  obtain ⟨R, hR⟩ : ∃ R : Room, R = ({ frames := 6, cells := 0, slots := 0, locals := 166 } : Room) := ⟨_, rfl⟩
  rw [show (headSpec (wz yX9_follows cX9_follows 6 (some .int)) { frames := 6, cells := 0, slots := 0, locals := 166 }).room = R from hR.symm]
  refine ti_mi hx hb hr hlocks (fun Q ret => ?_)
  have hl := lv_entry [.ref a0, .int x1, .int x2] (n := 6) (Nat.le_of_ble_eq_true rfl)
  rw [lg_entry_eq]
  generalize (lg_sl [.ref a0, .int x1, .int x2] ++ List.replicate (6 - (lg_sl [.ref a0, .int x1, .int x2]).length) Slot.unset).toArray = ls at hl ⊢
  have hl : lv_has ls 6 [(0, .ref a0), (1, .int x1), (2, .int x2)] := hl
  refine ti_gen (P := fun H => TI D vwCl (tysOf c0) (RTg ν) Y H) (Y := Y) (ws := [0, 1, 2, 3, 4, 7, 8, 20, 22, 28, 29]) hT (fun H locs hT hS => ?_)
  refine lv_aload_n hx hb dX9_follows_0 rfl (lv_at hl 0 rfl) ?_
  refine lv_iload_n hx hb dX9_follows_1 rfl (lv_at hl 1 rfl) ?_
  refine lv_i2l hx hb dX9_follows_2 rfl ?_
  refine lv_topl (fun v2 e2 => ?_)
  have hv2 : jv v2 (-2147483648) 2147483647 := by rw [e2]; exact jv_i hx1
  have t2 : v2.toInt = x1.toInt := by rw [e2]; exact jv_e _
  refine ti_calli (va_runV (As := [.long v2]) (rest := []) ⟨hx, hb, hml, hown, hts⟩ (t_X9_isPerson l hT ha0 (jv_w hv2 (by decide))) (cwV 1 hts (good_V kw_476 kw_477 kw_478 kw_2 kw_479) rfl rfl rfl (by decide +kernel) ⟨by rw [hR]; decide, by rw [hR]; decide⟩) (ti_preV hK hT ha0 rfl rfl) rfl rfl hl.1 rfl (lv_room (Nat.le_of_ble_eq_true rfl)) dX9_follows_3 ⟨Nat.zero_le _, Nat.zero_le _⟩) hS (pW_sub rfl) (fun v3 H1 locs hB hS _ hk3 => ?_)
  obtain ⟨hH, hv3, hp3⟩ := hB
  rw [hH] at hS ⊢
  refine lv_if_eq (tgt := 31) hx hb dX9_follows_6 (by decide) (fun c6 => ?_) (fun c6 => ?_)
  · skip
    have kl0 : (0 : Int32).toInt = 0 := by decide
    have f6 := i_eq c6
    have hv3_6l : iv v3 0 0 := iv_eql hv3 (iv_c (x := (0 : Int32)) (k := 0) (by decide)) c6 (by decide)
    refine lv_ldc (v := (-2000000000)) hx hb hown (hts _ kw_1003) dX9_follows_31 ?_
    exact ret _ _ _ _ _ dX9_follows_33 (hT) hS
  · skip
    have kl0 : (0 : Int32).toInt = 0 := by decide
    have f6 := i_ne c6
    have hv3_6l : iv v3 1 1 := iv_nel hv3 (iv_c (x := (0 : Int32)) (k := 0) (by decide)) c6 (by decide)
    have hv2_6p : jv v2 0 7 := by have b0a := (hv2).1; have b0b := (hv2).2; exact ⟨by omega, by omega⟩
    have hx1_6p : iv x1 0 7 := by have := t2; have b0a := (hv2_6p).1; have b0b := (hv2_6p).2; have b1a := (hx1).1; have b1b := (hx1).2; exact ⟨by omega, by omega⟩
    refine lv_iload_n hx hb dX9_follows_9 rfl (lv_at hl 2 rfl) ?_
    refine lv_if_lt (tgt := 31) hx hb dX9_follows_10 (by decide) (fun c10 => ?_) (fun c10 => ?_)
    · skip
      have f10 := i_lt c10
      have hx2_10l : iv x2 (-2147483648) (-1) := iv_ltl hx2 (iv_c (x := (0 : Int32)) (k := 0) (by decide)) c10 (by decide)
      refine lv_ldc (v := (-2000000000)) hx hb hown (hts _ kw_1003) dX9_follows_31 ?_
      exact ret _ _ _ _ _ dX9_follows_33 (hT) hS
    · skip
      have f10 := i_nlt c10
      have hx2_10r : iv x2 0 2147483647 := iv_ler (iv_c (x := (0 : Int32)) (k := 0) (by decide)) hx2 (Int32.not_lt.mp c10) (by decide)
      refine lv_iload_n hx hb dX9_follows_13 rfl (lv_at hl 2 rfl) ?_
      refine lv_iconst (v := 4) hx hb dX9_follows_14 (by decide) ?_
      refine lv_icmp_ge (tgt := 31) hx hb dX9_follows_15 (by decide) (fun c15 => ?_) (fun c15 => ?_)
      · skip
        have kl4 : (4 : Int32).toInt = 4 := by decide
        have f15 := i_le c15
        have hx2_15r : iv x2 4 2147483647 := iv_ler (iv_c (x := (4 : Int32)) (k := 4) (by decide)) hx2_10r c15 (by decide)
        refine lv_ldc (v := (-2000000000)) hx hb hown (hts _ kw_1003) dX9_follows_31 ?_
        exact ret _ _ _ _ _ dX9_follows_33 (hT) hS
      · skip
        have kl4 : (4 : Int32).toInt = 4 := by decide
        have f15 := i_nle c15
        have hx2_15l : iv x2 0 3 := iv_ltl hx2_10r (iv_c (x := (4 : Int32)) (k := 4) (by decide)) (Int32.not_le.mp c15) (by decide)
        refine lv_aload_n hx hb dX9_follows_18 rfl (lv_at hl 0 rfl) ?_
        refine lv_aload_n hx hb dX9_follows_19 rfl (lv_at hl 0 rfl) ?_
        refine ti_getr hx hb hts inlX9 hown hK hT ha0 rfl rfl rfl 5 (by decide) (hts _ kw_26) (fun _ h9 => h9) rfl dX9_follows_20 (fun v20 hv20 hm20 => ?_)
        refine lv_iload_n hx hb dX9_follows_23 rfl (lv_at hl 2 rfl) ?_
        refine ti_aald hx hb (aT5 hK) hT hv20 rfl hx2_15l (by decide) (fun _ _ _ => rfl) dX9_follows_24 (fun v24 hv24 => ?_)
        refine ti_calli (va_runV (As := [.ref v24]) (rest := []) ⟨hx, hb, hml, hown, hts⟩ (t_X9_tellsWays l hT ha0 hv24) (cwV 1 hts (good_V kw_1418 kw_1419 kw_1420 kw_2 kw_1421) rfl rfl rfl (by decide +kernel) ⟨by rw [hR]; decide, by rw [hR]; decide⟩) (ti_preV hK hT ha0 rfl rfl) rfl rfl hl.1 rfl (lv_room (Nat.le_of_ble_eq_true rfl)) dX9_follows_25 ⟨Nat.zero_le _, Nat.zero_le _⟩) hS (pW_sub rfl) (fun v25 H1 locs hB hS _ hk25 => ?_)
        obtain ⟨hH, hv25⟩ := hB
        rw [hH] at hS ⊢
        refine lv_if_ne (tgt := 34) hx hb dX9_follows_28 (by decide) (fun c28 => ?_) (fun c28 => ?_)
        · skip
          have f28 := i_ne c28
          have hv25_28l : iv v25 1 1 := iv_nel hv25 (iv_c (x := (0 : Int32)) (k := 0) (by decide)) c28 (by decide)
          refine lv_aload_n hx hb dX9_follows_34 rfl (lv_at hl 0 rfl) ?_
          refine ti_getE (ci := 9) (v := .ref v20) hx hb hts inlX9 hown hK hm20 rfl (by decide) (hts _ kw_26) (fun _ h9 => h9) dX9_follows_35 ?_
          refine lv_iload_n hx hb dX9_follows_38 rfl (lv_at hl 2 rfl) ?_
          refine ti_aald hx hb (aT5 hK) hT hv20 rfl hx2_15l (by decide) (fun _ _ _ => rfl) dX9_follows_39 (fun v39 hv39 => ?_)
          refine lv_astore_n (lv' := [(3, .ref v39), (0, .ref a0), (1, .int x1), (2, .int x2)]) hx hb dX9_follows_40 rfl hl (by decide) rfl (fun ls hl => ?_)
          refine lv_aload_n hx hb dX9_follows_41 rfl (lv_at hl 1 rfl) ?_
          refine ti_callr (va_runV (As := []) (rest := []) ⟨hx, hb, hml, hown, hts⟩ (t_X9_startThought l hT ha0) (cwV 0 hts (good_V kw_802 kw_803 kw_804 kw_2 kw_805) rfl rfl rfl (by decide +kernel) ⟨by rw [hR]; decide, by rw [hR]; decide⟩) (ti_preV hK hT ha0 rfl rfl) rfl rfl hl.1 rfl (lv_room (Nat.le_of_ble_eq_true rfl)) dX9_follows_42 ⟨Nat.zero_le _, Nat.zero_le _⟩) hS (pW_sub rfl) (fun v42 H locs hB hS _ hk42 => ?_)
          obtain ⟨hT, hv42⟩ := hB
          refine lv_astore (lv' := [(4, .ref v42), (3, .ref v39), (0, .ref a0), (1, .int x1), (2, .int x2)]) hx hb dX9_follows_45 hl (by decide) rfl (fun ls hl => ?_)
          refine lv_iconst (v := 0) hx hb dX9_follows_47 (by decide) ?_
          have J50 : ∀ (n : Nat) (j50_L5 : Int32) (H : Heap) (locs : List Loc) (ls : Array Slot), (60 - j50_L5.toInt).toNat < n → iv j50_L5 0 60 → TI D vwCl (tysOf c0) (RTg ν) Y H → va_S (pW Y [0, 1, 2, 3, 4, 7, 8, 20, 22, 28, 29]) s.heap H locs → lv_has ls 6 [(0, .ref a0), (1, .int x1), (2, .int x2), (3, .ref v39), (4, .ref v42), (5, .int j50_L5)] → W p l e R s m ([.ref a0, .int x1, .int x2] : List Value).toArray below meth c H locs 0 0 Q (F0 m 50 ls []) := by
            intro n
            induction n with
            | zero => intro j50_L5 H locs ls hms; exact absurd hms (Nat.not_lt_zero _)
            | succ n ih50 =>
              intro j50_L5 H locs ls hms50 hj50_L5 hT hS hl
              refine lv_iload hx hb dX9_follows_50 (lv_at hl 5 rfl) ?_
              refine lv_aload_n hx hb dX9_follows_52 rfl (lv_at hl 3 rfl) ?_
              refine ti_geti hx hb hts inlX5 hown hK hT hv39 rfl rfl rfl 2 (by decide) (hts _ kw_800) (fun _ h9 => h9) rfl dX9_follows_53 (fun v53 hv53 hm53 => ?_)
              refine lv_icmp_ge (tgt := 90) hx hb dX9_follows_56 (by decide) (fun c56 => ?_) (fun c56 => ?_)
              · skip
                have f56 := i_le c56
                refine lv_aload hx hb dX9_follows_90 (lv_at hl 4 rfl) ?_
                refine ti_getr hx hb hts inlX7 hown hK hT hv42 rfl rfl rfl 8 (by decide) (hts _ kw_471) (fun _ h9 => h9) rfl dX9_follows_92 (fun v92 hv92 hm92 => ?_)
                refine lv_iload_n hx hb dX9_follows_95 rfl (lv_at hl 1 rfl) ?_
                refine ti_aald hx hb (aT6 hK) hT hv92 rfl hx1_6p (by decide) (fun _ _ _ => rfl) dX9_follows_96 (fun v96 hv96 => ?_)
                refine ti_geti hx hb hts inlX3 hown hK hT hv96 rfl rfl rfl 4 (by decide) (hts _ kw_475) (fun _ h9 => h9) rfl dX9_follows_97 (fun v97 hv97 hm97 => ?_)
                refine lv_aload_n hx hb dX9_follows_100 rfl (lv_at hl 0 rfl) ?_
                refine ti_getr hx hb hts inlX9 hown hK hT ha0 rfl rfl rfl 1 (by decide) (hts _ kw_20) (fun _ h9 => h9) rfl dX9_follows_101 (fun v101 hv101 hm101 => ?_)
                refine ti_getr hx hb hts inlX7 hown hK hT hv101 rfl rfl rfl 8 (by decide) (hts _ kw_471) (fun _ h9 => h9) rfl dX9_follows_104 (fun v104 hv104 hm104 => ?_)
                refine lv_iload_n hx hb dX9_follows_107 rfl (lv_at hl 1 rfl) ?_
                refine ti_aald hx hb (aT6 hK) hT hv104 rfl hx1_6p (by decide) (fun _ _ _ => rfl) dX9_follows_108 (fun v108 hv108 => ?_)
                refine ti_geti hx hb hts inlX3 hown hK hT hv108 rfl rfl rfl 4 (by decide) (hts _ kw_475) (fun _ h9 => h9) rfl dX9_follows_109 (fun v109 hv109 hm109 => ?_)
                refine lv_isub hx hb dX9_follows_112 ?_
                refine lv_topi (fun v112 e112 => ?_)
                have hv112 : iv v112 (-2147483648) 2147483647 := iv_top _
                exact ret _ _ _ _ _ dX9_follows_113 (hT) hS
              · skip
                have f56 := i_nle c56
                have hj50_L5_56l : iv j50_L5 0 59 := iv_ltl hj50_L5 hv53 (Int32.not_le.mp c56) (by decide)
                have hv53_56r : iv v53 1 60 := iv_ltr hj50_L5_56l hv53 (Int32.not_le.mp c56) (by decide)
                refine lv_aload_n hx hb dX9_follows_59 rfl (lv_at hl 0 rfl) ?_
                refine lv_aload hx hb dX9_follows_60 (lv_at hl 4 rfl) ?_
                refine lv_iload_n hx hb dX9_follows_62 rfl (lv_at hl 1 rfl) ?_
                refine lv_aload_n hx hb dX9_follows_63 rfl (lv_at hl 3 rfl) ?_
                refine ti_getr hx hb hts inlX5 hown hK hT hv39 rfl rfl rfl 3 (by decide) (hts _ kw_801) (fun _ h9 => h9) rfl dX9_follows_64 (fun v64 hv64 hm64 => ?_)
                refine lv_iload hx hb dX9_follows_67 (lv_at hl 5 rfl) ?_
                refine ti_lald hx hb (aT3 hK) hT hv64 rfl hj50_L5_56l (by decide) (fun _ _ _ => rfl) dX9_follows_69 (fun v69 hm69 => ?_)
                refine lv_l2i hx hb dX9_follows_70 rfl ?_
                refine lv_topi (fun v70 e70 => ?_)
                have hv70 : iv v70 (-2147483648) 2147483647 := iv_top _
                refine ti_callv (va_runV (As := [.ref v42, .int x1, .int v70]) (rest := []) ⟨hx, hb, hml, hown, hts⟩ (t_X9_turnInThought l hT ha0 hv42 (iv_w hx1_6p (by decide)) (iv_w hv70 (by decide))) (cwV 3 hts (good_V kw_1119 kw_1120 kw_1121 kw_2 kw_1122) rfl rfl rfl (by decide +kernel) ⟨by rw [hR]; decide, by rw [hR]; decide⟩) (ti_preV hK hT ha0 rfl rfl) rfl rfl hl.1 rfl (lv_room (Nat.le_of_ble_eq_true rfl)) dX9_follows_71 ⟨Nat.zero_le _, Nat.zero_le _⟩) hS (pW_sub rfl) (fun H locs hB hS _ hk71 => ?_)
                have hT := hB
                refine lv_aload_n hx hb dX9_follows_74 rfl (lv_at hl 0 rfl) ?_
                refine ti_getr hx hb hts inlX9 hown hK hT ha0 rfl rfl rfl 8 (by decide) (hts _ kw_38) (fun _ h9 => h9) rfl dX9_follows_75 (fun v75 hv75 hm75 => ?_)
                refine lv_aload hx hb dX9_follows_78 (lv_at hl 4 rfl) ?_
                refine lv_iconst (v := 1) hx hb dX9_follows_80 (by decide) ?_
                refine ti_callv (va_runV (As := [.ref v42, .int (1 : Int32)]) (rest := []) ⟨hx, hb, hml, hown, hts⟩ (t_X8_pass l hT hv75 hv42 (iv_w (iv_c (x := (1 : Int32)) (k := 1) (by decide)) (by decide))) (cwV 2 hts (good_V kw_840 kw_841 kw_842 kw_37 kw_843) rfl rfl rfl (by decide +kernel) ⟨by rw [hR]; decide, by rw [hR]; decide⟩) (ti_preV hK hT hv75 rfl rfl) rfl rfl hl.1 rfl (lv_room (Nat.le_of_ble_eq_true rfl)) dX9_follows_81 ⟨Nat.zero_le _, Nat.zero_le _⟩) hS (pW_sub rfl) (fun H locs hB hS _ hk81 => ?_)
                have hT := hB
                obtain ⟨v84, e84⟩ : ∃ y : Int32, y = j50_L5 + 1 := ⟨_, rfl⟩
                have hv84 : iv v84 1 60 := by rw [e84]; exact iv_w (iv_add hj50_L5_56l (iv_c (x := (1 : Int32)) (k := 1) (by decide)) (by decide)) (by decide)
                have s84 : v84.toInt = j50_L5.toInt + 1 := by rw [e84, iv_addE hj50_L5_56l (iv_c (x := (1 : Int32)) (k := 1) (by decide)) (by decide)]; rfl
                refine lv_iinc (v := v84) (lv' := [(5, .int v84), (0, .ref a0), (1, .int x1), (2, .int x2), (3, .ref v39), (4, .ref v42)]) hx hb dX9_follows_84 hl (k := 5) rfl (by rw [e84]; rfl) (by decide) rfl (fun ls hl => ?_)
                refine lv_goto (tgt := 50) hx hb dX9_follows_87 (by decide) ?_
                exact ih50 v84 _ _ _ (ms_up hms50 (by have := s84; omega) (iv_w (c := 1) (d := 60) hv84 (by decide)).2) (iv_w hv84 (by decide)) hT hS (lv_sub hl [1, 2, 3, 4, 5, 0] rfl)
          refine lv_istore (lv' := [(5, .int (0 : Int32)), (4, .ref v42), (3, .ref v39), (0, .ref a0), (1, .int x1), (2, .int x2)]) hx hb dX9_follows_48 hl (by decide) rfl (fun ls hl => ?_)
          exact J50 _ (0 : Int32) _ _ _ (Nat.lt_succ_self _) (iv_w (iv_c (x := (0 : Int32)) (k := 0) (by decide)) (by decide)) hT hS (lv_sub hl [3, 4, 5, 2, 1, 0] rfl)
        · skip
          have f28 := i_eq c28
          have hv25_28l : iv v25 0 0 := iv_eql hv25 (iv_c (x := (0 : Int32)) (k := 0) (by decide)) c28 (by decide)
          refine lv_ldc (v := (-2000000000)) hx hb hown (hts _ kw_1003) dX9_follows_31 ?_
          exact ret _ _ _ _ _ dX9_follows_33 (hT) hS
set_option maxHeartbeats 4000000 in
set_option maxRecDepth 100000 in
theorem t_X9_goodByRow (l : Launch) {D : va_G} {c0 : Nat → ClassId} {Y : Nat → Option Nat} {ν : Nat → Nat} {H : Heap} (hT : TI D vwCl (tysOf c0) (RTg ν) Y H) {a0 : Nat} (ha0 : Y a0 = some 9) {x1 : Int32} (hx1 : iv x1 0 7) {x2 : Int32} (hx2 : iv x2 1 3) {x3 : Int32} (hx3 : iv x3 0 2147483646) {x4 : Int32} (hx4 : iv x4 1 2147483647) : Met l yX9_goodByRow (wz yX9_goodByRow cX9_goodByRow 9 (some .int)) { frames := 6, cells := 0, slots := 0, locals := 166 } (TP D vwCl (tysOf c0) H [.ref a0, .int x1, .int x2, .int x3, .int x4]) (TQi (fun x H' => TI D vwCl (tysOf c0) (RTg ν) Y H') Y [0, 1, 2, 3, 4, 7, 8, 20, 22, 28, 29]) 0 0 (pW Y [0, 1, 2, 3, 4, 7, 8, 20, 22, 28, 29]) := by
  refine Met.ofW (cc := cX9_goodByRow) (maxL := 9) (ret := (some .int)) (by decide) rfl ?_
  intro p e s m args below meth c s₁ B hml hv
  obtain ⟨rfl, rfl, hK⟩ := hv
  have hx := B.exec
  have hb := B.bytes
  have hr := B.returns
  have hts : ∀ w ∈ wq, w.before _ s = true := fun w h => atoms_spec (ws := wz yX9_goodByRow cX9_goodByRow 9 (some .int)) B.pre w (List.mem_cons_of_mem _ h)
  have hown : s.vm.findClass RX9 = some m.cls := findClass_of_methodNamed B.named
  have hlocks := B.notSynchronized
  obtain ⟨R, hR⟩ : ∃ R : Room, R = ({ frames := 6, cells := 0, slots := 0, locals := 166 } : Room) := ⟨_, rfl⟩
  rw [show (headSpec (wz yX9_goodByRow cX9_goodByRow 9 (some .int)) { frames := 6, cells := 0, slots := 0, locals := 166 }).room = R from hR.symm]
  refine ti_mi hx hb hr hlocks (fun Q ret => ?_)
  have hl := lv_entry [.ref a0, .int x1, .int x2, .int x3, .int x4] (n := 9) (Nat.le_of_ble_eq_true rfl)
  rw [lg_entry_eq]
  generalize (lg_sl [.ref a0, .int x1, .int x2, .int x3, .int x4] ++ List.replicate (9 - (lg_sl [.ref a0, .int x1, .int x2, .int x3, .int x4]).length) Slot.unset).toArray = ls at hl ⊢
  have hl : lv_has ls 9 [(0, .ref a0), (1, .int x1), (2, .int x2), (3, .int x3), (4, .int x4)] := hl
  refine ti_gen (P := fun H => TI D vwCl (tysOf c0) (RTg ν) Y H) (Y := Y) (ws := [0, 1, 2, 3, 4, 7, 8, 20, 22, 28, 29]) hT (fun H locs hT hS => ?_)
  refine lv_iload hx hb dX9_goodByRow_0 (lv_at hl 4 rfl) ?_
  refine lv_istore (lv' := [(5, .int x4), (0, .ref a0), (1, .int x1), (2, .int x2), (3, .int x3), (4, .int x4)]) hx hb dX9_goodByRow_2 hl (by decide) rfl (fun ls hl => ?_)
  refine lv_aload_n hx hb dX9_goodByRow_4 rfl (lv_at hl 1 rfl) ?_
  refine ti_getr hx hb hts inlX9 hown hK hT ha0 rfl rfl rfl 1 (by decide) (hts _ kw_20) (fun _ h9 => h9) rfl dX9_goodByRow_5 (fun v5 hv5 hm5 => ?_)
  refine lv_astore (lv' := [(6, .ref v5), (5, .int x4), (0, .ref a0), (1, .int x1), (2, .int x2), (3, .int x3), (4, .int x4)]) hx hb dX9_goodByRow_8 hl (by decide) rfl (fun ls hl => ?_)
  refine lv_iconst (v := 0) hx hb dX9_goodByRow_10 (by decide) ?_
  have J13 : ∀ (n : Nat) (j13_L5 : Int32) (j13_L6 : Nat) (j13_L7 : Int32) (H : Heap) (locs : List Loc) (ls : Array Slot), (3 - j13_L7.toInt).toNat < n → iv j13_L5 1 2147483647 → Y j13_L6 = some 7 → iv j13_L7 0 3 → TI D vwCl (tysOf c0) (RTg ν) Y H → va_S (pW Y [0, 1, 2, 3, 4, 7, 8, 20, 22, 28, 29]) s.heap H locs → lv_has ls 9 [(0, .ref a0), (1, .int x1), (2, .int x2), (3, .int x3), (4, .int x4), (5, .int j13_L5), (6, .ref j13_L6), (7, .int j13_L7)] → W p l e R s m ([.ref a0, .int x1, .int x2, .int x3, .int x4] : List Value).toArray below meth c H locs 0 0 Q (F0 m 13 ls []) := by
    intro n
    induction n with
    | zero => intro j13_L5 j13_L6 j13_L7 H locs ls hms; exact absurd hms (Nat.not_lt_zero _)
    | succ n ih13 =>
      intro j13_L5 j13_L6 j13_L7 H locs ls hms13 hj13_L5 hj13_L6 hj13_L7 hT hS hl
      refine lv_iload hx hb dX9_goodByRow_13 (lv_at hl 7 rfl) ?_
      refine lv_iload_n hx hb dX9_goodByRow_15 rfl (lv_at hl 2 rfl) ?_
      refine lv_icmp_ge (tgt := 87) hx hb dX9_goodByRow_16 (by decide) (fun c16 => ?_) (fun c16 => ?_)
      · skip
        have f16 := i_le c16
        have hj13_L7_16r : iv j13_L7 1 3 := iv_ler hx2 hj13_L7 c16 (by decide)
        refine lv_aload hx hb dX9_goodByRow_87 (lv_at hl 6 rfl) ?_
        refine ti_getr hx hb hts inlX7 hown hK hT hj13_L6 rfl rfl rfl 8 (by decide) (hts _ kw_471) (fun _ h9 => h9) rfl dX9_goodByRow_89 (fun v89 hv89 hm89 => ?_)
        refine lv_iload_n hx hb dX9_goodByRow_92 rfl (lv_at hl 1 rfl) ?_
        refine ti_aald hx hb (aT6 hK) hT hv89 rfl hx1 (by decide) (fun _ _ _ => rfl) dX9_goodByRow_93 (fun v93 hv93 => ?_)
        refine ti_geti hx hb hts inlX3 hown hK hT hv93 rfl rfl rfl 4 (by decide) (hts _ kw_475) (fun _ h9 => h9) rfl dX9_goodByRow_94 (fun v94 hv94 hm94 => ?_)
        refine lv_aload_n hx hb dX9_goodByRow_97 rfl (lv_at hl 0 rfl) ?_
        refine ti_getr hx hb hts inlX9 hown hK hT ha0 rfl rfl rfl 1 (by decide) (hts _ kw_20) (fun _ h9 => h9) rfl dX9_goodByRow_98 (fun v98 hv98 hm98 => ?_)
        refine ti_getr hx hb hts inlX7 hown hK hT hv98 rfl rfl rfl 8 (by decide) (hts _ kw_471) (fun _ h9 => h9) rfl dX9_goodByRow_101 (fun v101 hv101 hm101 => ?_)
        refine lv_iload_n hx hb dX9_goodByRow_104 rfl (lv_at hl 1 rfl) ?_
        refine ti_aald hx hb (aT6 hK) hT hv101 rfl hx1 (by decide) (fun _ _ _ => rfl) dX9_goodByRow_105 (fun v105 hv105 => ?_)
        refine ti_geti hx hb hts inlX3 hown hK hT hv105 rfl rfl rfl 4 (by decide) (hts _ kw_475) (fun _ h9 => h9) rfl dX9_goodByRow_106 (fun v106 hv106 hm106 => ?_)
        refine lv_isub hx hb dX9_goodByRow_109 ?_
        refine lv_topi (fun v109 e109 => ?_)
        have hv109 : iv v109 (-2147483648) 2147483647 := iv_top _
        exact ret _ _ _ _ _ dX9_goodByRow_110 (hT) hS
      · skip
        have f16 := i_nle c16
        have hj13_L7_16l : iv j13_L7 0 2 := iv_ltl hj13_L7 hx2 (Int32.not_le.mp c16) (by decide)
        refine lv_iconst (v := 1) hx hb dX9_goodByRow_19 (by decide) ?_
        refine lv_iload hx hb dX9_goodByRow_20 (lv_at hl 5 rfl) ?_
        refine lv_bipush (v := 6) hx hb dX9_goodByRow_22 (by decide) ?_
        refine lv_idiv hx hb dX9_goodByRow_24 (iv_ne0 (iv_c (x := (6 : Int32)) (k := 6) (by decide)) (by decide)) ?_
        refine lv_topi (fun v24 e24 => ?_)
        have hv24 : iv v24 0 357913941 := by rw [e24]; exact iv_w (iv_divk hj13_L5 (iv_c (x := (6 : Int32)) (k := 6) (by decide)) (by decide)) (by decide)
        refine va_mmax hx hb (by rw [hml]; exact hl.1.symm) hown (hts _ kw_1101) (hts _ kw_618) (hts _ kw_212) (hts _ kw_619) (by rw [hR]; decide) (by rw [hR]; exact Nat.le_of_ble_eq_true rfl) (Nat.zero_le _) (Nat.zero_le _) dX9_goodByRow_25 ?_
        refine lv_topi (fun v25 e25 => ?_)
        have hv25 : iv v25 1 357913941 := by rw [e25]; exact iv_max (iv_c (x := (1 : Int32)) (k := 1) (by decide)) hv24 (by decide)
        refine lv_istore (lv' := [(5, .int v25), (0, .ref a0), (1, .int x1), (2, .int x2), (3, .int x3), (4, .int x4), (6, .ref j13_L6), (7, .int j13_L7)]) hx hb dX9_goodByRow_28 hl (by decide) rfl (fun ls hl => ?_)
        refine lv_aload_n hx hb dX9_goodByRow_30 rfl (lv_at hl 1 rfl) ?_
        refine ti_getr hx hb hts inlX9 hown hK hT ha0 rfl rfl rfl 2 (by decide) (hts _ kw_21) (fun _ h9 => h9) rfl dX9_goodByRow_31 (fun v31 hv31 hm31 => ?_)
        refine lv_iload hx hb dX9_goodByRow_34 (lv_at hl 7 rfl) ?_
        refine ti_aald hx hb (aT4 hK) hT hv31 rfl hj13_L7_16l (by decide) (fun _ _ _ => rfl) dX9_goodByRow_36 (fun v36 hv36 => ?_)
        refine lv_astore (lv' := [(8, .ref v36), (5, .int v25), (0, .ref a0), (1, .int x1), (2, .int x2), (3, .int x3), (4, .int x4), (6, .ref j13_L6), (7, .int j13_L7)]) hx hb dX9_goodByRow_37 hl (by decide) rfl (fun ls hl => ?_)
        refine lv_iload_n hx hb dX9_goodByRow_39 rfl (lv_at hl 5 rfl) ?_
        refine lv_iload hx hb dX9_goodByRow_40 (lv_at hl 1 rfl) ?_
        refine lv_irem hx hb dX9_goodByRow_42 (iv_ne0 hv25 (by decide)) ?_
        refine lv_topi (fun v42 e42 => ?_)
        have hv42 : iv v42 0 357913940 := by rw [e42]; exact iv_rem hx3 hv25 (by decide)
        have J77 : ∀  (H : Heap) (locs : List Loc) (ls : Array Slot), TI D vwCl (tysOf c0) (RTg ν) Y H → va_S (pW Y [0, 1, 2, 3, 4, 7, 8, 20, 22, 28, 29]) s.heap H locs → lv_has ls 9 [(0, .ref a0), (1, .int x1), (2, .int x2), (3, .int x3), (4, .int x4), (5, .int v25), (6, .ref j13_L6), (7, .int j13_L7), (8, .ref v36)] → W p l e R s m ([.ref a0, .int x1, .int x2, .int x3, .int x4] : List Value).toArray below meth c H locs 0 0 Q (F0 m 77 ls []) := by
          intro  H locs ls  hT hS hl
          refine lv_aload hx hb dX9_goodByRow_77 (lv_at hl 8 rfl) ?_
          refine lv_astore (lv' := [(6, .ref v36), (0, .ref a0), (1, .int x1), (2, .int x2), (3, .int x3), (4, .int x4), (5, .int v25), (7, .int j13_L7), (8, .ref v36)]) hx hb dX9_goodByRow_79 hl (by decide) rfl (fun ls hl => ?_)
          obtain ⟨v81, e81⟩ : ∃ y : Int32, y = j13_L7 + 1 := ⟨_, rfl⟩
          have hv81 : iv v81 1 3 := by rw [e81]; exact iv_w (iv_add hj13_L7_16l (iv_c (x := (1 : Int32)) (k := 1) (by decide)) (by decide)) (by decide)
          have s81 : v81.toInt = j13_L7.toInt + 1 := by rw [e81, iv_addE hj13_L7_16l (iv_c (x := (1 : Int32)) (k := 1) (by decide)) (by decide)]; rfl
          refine lv_iinc (v := v81) (lv' := [(7, .int v81), (6, .ref v36), (0, .ref a0), (1, .int x1), (2, .int x2), (3, .int x3), (4, .int x4), (5, .int v25), (8, .ref v36)]) hx hb dX9_goodByRow_81 hl (k := 7) rfl (by rw [e81]; rfl) (by decide) rfl (fun ls hl => ?_)
          refine lv_goto (tgt := 13) hx hb dX9_goodByRow_84 (by decide) ?_
          exact ih13 v25 v36 v81 _ _ _ (ms_up hms13 (by have := s81; omega) (iv_w (c := 1) (d := 3) hv81 (by decide)).2) (iv_w hv25 (by decide)) hv36 (iv_w hv81 (by decide)) hT hS (lv_sub hl [2, 3, 4, 5, 6, 7, 1, 0] rfl)
        refine lv_if_ne (tgt := 77) hx hb dX9_goodByRow_43 (by decide) (fun c43 => ?_) (fun c43 => ?_)
        · skip
          have kl0 : (0 : Int32).toInt = 0 := by decide
          have f43 := i_ne c43
          have hv42_43l : iv v42 1 357913940 := iv_nel hv42 (iv_c (x := (0 : Int32)) (k := 0) (by decide)) c43 (by decide)
          exact J77  _ _ _   hT hS (lv_sub hl [2, 3, 4, 5, 6, 1, 7, 8, 0] rfl)
        · skip
          have kl0 : (0 : Int32).toInt = 0 := by decide
          have f43 := i_eq c43
          have hv42_43l : iv v42 0 0 := iv_eql hv42 (iv_c (x := (0 : Int32)) (k := 0) (by decide)) c43 (by decide)
          refine lv_aload hx hb dX9_goodByRow_46 (lv_at hl 0 rfl) ?_
          refine lv_aload hx hb dX9_goodByRow_48 (lv_at hl 7 rfl) ?_
          refine ti_callv (va_runV (As := [.ref j13_L6]) (rest := []) ⟨hx, hb, hml, hown, hts⟩ (t_X7_copyFrom l hT hv36 hj13_L6) (cwV 1 hts (good_V kw_342 kw_343 kw_344 kw_19 kw_345) rfl rfl rfl (by decide +kernel) ⟨by rw [hR]; decide, by rw [hR]; decide⟩) (ti_preV hK hT hv36 rfl rfl) rfl rfl hl.1 rfl (lv_room (Nat.le_of_ble_eq_true rfl)) dX9_goodByRow_50 ⟨Nat.zero_le _, Nat.zero_le _⟩) hS (pW_sub rfl) (fun H locs hB hS _ hk50 => ?_)
          have hT := hB
          refine lv_aload_n hx hb dX9_goodByRow_53 rfl (lv_at hl 2 rfl) ?_
          refine lv_aload hx hb dX9_goodByRow_54 (lv_at hl 0 rfl) ?_
          refine lv_iload_n hx hb dX9_goodByRow_56 rfl (lv_at hl 3 rfl) ?_
          refine lv_iload_n hx hb dX9_goodByRow_57 rfl (lv_at hl 5 rfl) ?_
          refine lv_iload hx hb dX9_goodByRow_58 (lv_at hl 1 rfl) ?_
          refine lv_idiv hx hb dX9_goodByRow_60 (iv_ne0 hv25 (by decide)) ?_
          refine lv_topi (fun v60 e60 => ?_)
          have hv60 : iv v60 0 2147483646 := by rw [e60]; exact iv_div hx3 hv25 (by decide)
          refine lv_bipush (v := 6) hx hb dX9_goodByRow_61 (by decide) ?_
          refine lv_irem hx hb dX9_goodByRow_63 (iv_ne0 (iv_c (x := (6 : Int32)) (k := 6) (by decide)) (by decide)) ?_
          refine lv_topi (fun v63 e63 => ?_)
          have hv63 : iv v63 0 5 := by rw [e63]; exact iv_rem hv60 (iv_c (x := (6 : Int32)) (k := 6) (by decide)) (by decide)
          refine ti_callv (va_runV (As := [.ref v36, .int x1, .int v63]) (rest := []) ⟨hx, hb, hml, hown, hts⟩ (t_X9_turnInThought l hT ha0 hv36 (iv_w hx1 (by decide)) (iv_w hv63 (by decide))) (cwV 3 hts (good_V kw_1119 kw_1120 kw_1121 kw_2 kw_1122) rfl rfl rfl (by decide +kernel) ⟨by rw [hR]; decide, by rw [hR]; decide⟩) (ti_preV hK hT ha0 rfl rfl) rfl rfl hl.1 rfl (lv_room (Nat.le_of_ble_eq_true rfl)) dX9_goodByRow_64 ⟨Nat.zero_le _, Nat.zero_le _⟩) hS (pW_sub rfl) (fun H locs hB hS _ hk64 => ?_)
          have hT := hB
          refine lv_aload_n hx hb dX9_goodByRow_67 rfl (lv_at hl 2 rfl) ?_
          refine ti_getr hx hb hts inlX9 hown hK hT ha0 rfl rfl rfl 8 (by decide) (hts _ kw_38) (fun _ h9 => h9) rfl dX9_goodByRow_68 (fun v68 hv68 hm68 => ?_)
          refine lv_aload hx hb dX9_goodByRow_71 (lv_at hl 0 rfl) ?_
          refine lv_iconst (v := 1) hx hb dX9_goodByRow_73 (by decide) ?_
          refine ti_callv (va_runV (As := [.ref v36, .int (1 : Int32)]) (rest := []) ⟨hx, hb, hml, hown, hts⟩ (t_X8_pass l hT hv68 hv36 (iv_w (iv_c (x := (1 : Int32)) (k := 1) (by decide)) (by decide))) (cwV 2 hts (good_V kw_840 kw_841 kw_842 kw_37 kw_843) rfl rfl rfl (by decide +kernel) ⟨by rw [hR]; decide, by rw [hR]; decide⟩) (ti_preV hK hT hv68 rfl rfl) rfl rfl hl.1 rfl (lv_room (Nat.le_of_ble_eq_true rfl)) dX9_goodByRow_74 ⟨Nat.zero_le _, Nat.zero_le _⟩) hS (pW_sub rfl) (fun H locs hB hS _ hk74 => ?_)
          have hT := hB
          exact J77  _ _ _   hT hS (lv_sub hl [2, 3, 4, 5, 6, 1, 7, 8, 0] rfl)
  refine lv_istore (lv' := [(7, .int (0 : Int32)), (6, .ref v5), (5, .int x4), (0, .ref a0), (1, .int x1), (2, .int x2), (3, .int x3), (4, .int x4)]) hx hb dX9_goodByRow_11 hl (by decide) rfl (fun ls hl => ?_)
  exact J13 _ x4 v5 (0 : Int32) _ _ _ (Nat.lt_succ_self _) (iv_w hx4 (by decide)) hv5 (iv_w (iv_c (x := (0 : Int32)) (k := 0) (by decide)) (by decide)) hT hS (lv_sub hl [3, 4, 5, 6, 7, 2, 1, 0] rfl)
set_option maxHeartbeats 4000000 in
set_option maxRecDepth 100000 in
theorem t_X9_notePlan (l : Launch) {D : va_G} {c0 : Nat → ClassId} {Y : Nat → Option Nat} {ν : Nat → Nat} {H : Heap} (hT : TI D vwCl (tysOf c0) (RTg ν) Y H) {a0 : Nat} (ha0 : Y a0 = some 9) {x1 : Int32} (hx1 : iv x1 1 3) {x2 : Int32} (hx2 : iv x2 0 2147483646) : Met l yX9_notePlan (wz yX9_notePlan cX9_notePlan 5 none) { frames := 0, cells := 0, slots := 0, locals := 0 } (TP D vwCl (tysOf c0) H [.ref a0, .int x1, .int x2]) (TQv (fun H' => TI D vwCl (tysOf c0) (RTg ν) Y H') Y [40]) 0 0 (pW Y [40]) := by
  refine Met.ofW (cc := cX9_notePlan) (maxL := 5) (ret := none) (by decide) rfl ?_
  intro p e s m args below meth c s₁ B hml hv
  obtain ⟨rfl, rfl, hK⟩ := hv
  have hx := B.exec
  have hb := B.bytes
  have hr := B.returns
  have hts : ∀ w ∈ wq, w.before _ s = true := fun w h => atoms_spec (ws := wz yX9_notePlan cX9_notePlan 5 none) B.pre w (List.mem_cons_of_mem _ h)
  have hown : s.vm.findClass RX9 = some m.cls := findClass_of_methodNamed B.named
  have hlocks := B.notSynchronized
  obtain ⟨R, hR⟩ : ∃ R : Room, R = ({ frames := 0, cells := 0, slots := 0, locals := 0 } : Room) := ⟨_, rfl⟩
  rw [show (headSpec (wz yX9_notePlan cX9_notePlan 5 none) { frames := 0, cells := 0, slots := 0, locals := 0 }).room = R from hR.symm]
  refine ti_mv hx hb hr hlocks (fun Q ret => ?_)
  have hl := lv_entry [.ref a0, .int x1, .int x2] (n := 5) (Nat.le_of_ble_eq_true rfl)
  rw [lg_entry_eq]
  generalize (lg_sl [.ref a0, .int x1, .int x2] ++ List.replicate (5 - (lg_sl [.ref a0, .int x1, .int x2]).length) Slot.unset).toArray = ls at hl ⊢
  have hl : lv_has ls 5 [(0, .ref a0), (1, .int x1), (2, .int x2)] := hl
  refine ti_gen (P := fun H => TI D vwCl (tysOf c0) (RTg ν) Y H) (Y := Y) (ws := [40]) hT (fun H locs hT hS => ?_)
  refine lv_iload_n hx hb dX9_notePlan_0 rfl (lv_at hl 2 rfl) ?_
  refine lv_istore_n (lv' := [(3, .int x2), (0, .ref a0), (1, .int x1), (2, .int x2)]) hx hb dX9_notePlan_1 rfl hl (by decide) rfl (fun ls hl => ?_)
  refine lv_iload_n hx hb dX9_notePlan_2 rfl (lv_at hl 2 rfl) ?_
  have J5 : ∀ (n : Nat) (j5_L3 : Int32) (j5_L4 : Int32) (H : Heap) (locs : List Loc) (ls : Array Slot), (j5_L4.toInt - 0).toNat < n → iv j5_L3 0 2147483646 → iv j5_L4 0 3 → TI D vwCl (tysOf c0) (RTg ν) Y H → va_S (pW Y [40]) s.heap H locs → lv_has ls 5 [(0, .ref a0), (1, .int x1), (2, .int x2), (3, .int j5_L3), (4, .int j5_L4)] → W p l e R s m ([.ref a0, .int x1, .int x2] : List Value).toArray below meth c H locs 0 0 Q (F0 m 5 ls []) := by
    intro n
    induction n with
    | zero => intro j5_L3 j5_L4 H locs ls hms; exact absurd hms (Nat.not_lt_zero _)
    | succ n ih5 =>
      intro j5_L3 j5_L4 H locs ls hms5 hj5_L3 hj5_L4 hT hS hl
      refine lv_iload hx hb dX9_notePlan_5 (lv_at hl 4 rfl) ?_
      refine lv_iconst (v := 1) hx hb dX9_notePlan_7 (by decide) ?_
      refine lv_icmp_lt (tgt := 33) hx hb dX9_notePlan_8 (by decide) (fun c8 => ?_) (fun c8 => ?_)
      · skip
        have kl1 : (1 : Int32).toInt = 1 := by decide
        have f8 := i_lt c8
        have hj5_L4_8l : iv j5_L4 0 0 := iv_ltl hj5_L4 (iv_c (x := (1 : Int32)) (k := 1) (by decide)) c8 (by decide)
        exact ret _ _ _ _ dX9_notePlan_33 (hT) hS
      · skip
        have kl1 : (1 : Int32).toInt = 1 := by decide
        have f8 := i_nlt c8
        have hj5_L4_8r : iv j5_L4 1 3 := iv_ler (iv_c (x := (1 : Int32)) (k := 1) (by decide)) hj5_L4 (Int32.not_lt.mp c8) (by decide)
        refine lv_aload_n hx hb dX9_notePlan_11 rfl (lv_at hl 0 rfl) ?_
        refine ti_getr hx hb hts inlX9 hown hK hT ha0 rfl rfl rfl 10 (by decide) (hts _ kw_41) (fun _ h9 => h9) rfl dX9_notePlan_12 (fun v12 hv12 hm12 => ?_)
        refine lv_iload hx hb dX9_notePlan_15 (lv_at hl 4 rfl) ?_
        refine lv_iload_n hx hb dX9_notePlan_17 rfl (lv_at hl 3 rfl) ?_
        refine lv_bipush (v := 6) hx hb dX9_notePlan_18 (by decide) ?_
        refine lv_irem hx hb dX9_notePlan_20 (iv_ne0 (iv_c (x := (6 : Int32)) (k := 6) (by decide)) (by decide)) ?_
        refine lv_topi (fun v20 e20 => ?_)
        have hv20 : iv v20 0 5 := by rw [e20]; exact iv_rem hj5_L3 (iv_c (x := (6 : Int32)) (k := 6) (by decide)) (by decide)
        refine ti_iast hx hb (aT0 hK) hT hS hv12 rfl rfl hj5_L4_8r (by decide) (fun _ _ _ => ⟨_, _, rfl, by decide, by decide⟩) hv20 (fun _ _ => trivial) dX9_notePlan_21 (fun H locs hT hS oq21 he21 hk21 => ?_)
        refine lv_iload_n hx hb dX9_notePlan_22 rfl (lv_at hl 3 rfl) ?_
        refine lv_bipush (v := 6) hx hb dX9_notePlan_23 (by decide) ?_
        refine lv_idiv hx hb dX9_notePlan_25 (iv_ne0 (iv_c (x := (6 : Int32)) (k := 6) (by decide)) (by decide)) ?_
        refine lv_topi (fun v25 e25 => ?_)
        have hv25 : iv v25 0 357913941 := by rw [e25]; exact iv_w (iv_divk hj5_L3 (iv_c (x := (6 : Int32)) (k := 6) (by decide)) (by decide)) (by decide)
        refine lv_istore_n (lv' := [(3, .int v25), (0, .ref a0), (1, .int x1), (2, .int x2), (4, .int j5_L4)]) hx hb dX9_notePlan_26 rfl hl (by decide) rfl (fun ls hl => ?_)
        obtain ⟨v27, e27⟩ : ∃ y : Int32, y = j5_L4 + (-1) := ⟨_, rfl⟩
        have hv27 : iv v27 0 2 := by rw [e27]; exact iv_w (iv_add hj5_L4_8r (iv_c (x := (-1 : Int32)) (k := (-1)) (by decide)) (by decide)) (by decide)
        have s27 : v27.toInt = j5_L4.toInt + (-1) := by rw [e27, iv_addE hj5_L4_8r (iv_c (x := (-1 : Int32)) (k := (-1)) (by decide)) (by decide)]; rfl
        refine lv_iinc (v := v27) (lv' := [(4, .int v27), (3, .int v25), (0, .ref a0), (1, .int x1), (2, .int x2)]) hx hb dX9_notePlan_27 hl (k := 4) rfl (by rw [e27]; rfl) (by decide) rfl (fun ls hl => ?_)
        refine lv_goto (tgt := 5) hx hb dX9_notePlan_30 (by decide) ?_
        exact ih5 v25 v27 _ _ _ (ms_dn hms5 (by have := s27; omega) (iv_w (c := 0) (d := 2) hv27 (by decide)).1) (iv_w hv25 (by decide)) (iv_w hv27 (by decide)) hT hS (lv_sub hl [2, 3, 4, 1, 0] rfl)
  refine lv_istore (lv' := [(4, .int x1), (3, .int x2), (0, .ref a0), (1, .int x1), (2, .int x2)]) hx hb dX9_notePlan_3 hl (by decide) rfl (fun ls hl => ?_)
  exact J5 _ x2 x1 _ _ _ (Nat.lt_succ_self _) (iv_w hx2 (by decide)) (iv_w hx1 (by decide)) hT hS (lv_sub hl [2, 3, 4, 1, 0] rfl)
set_option maxHeartbeats 4000000 in
set_option maxRecDepth 100000 in
theorem t_X9_plan (l : Launch) {D : va_G} {c0 : Nat → ClassId} {Y : Nat → Option Nat} {ν : Nat → Nat} {H : Heap} (hT : TI D vwCl (tysOf c0) (RTg ν) Y H) {a0 : Nat} (ha0 : Y a0 = some 9) {x1 : Int32} (hx1 : iv x1 (-2147483648) 2147483647) {x2 : Int32} (hx2 : iv x2 (-2147483648) 2147483647) {x3 : Int32} (hx3 : iv x3 (-2147483648) 2147483647) : Met l yX9_plan (wz yX9_plan cX9_plan 7 (some .int)) { frames := 7, cells := 0, slots := 0, locals := 194 } (TP D vwCl (tysOf c0) H [.ref a0, .int x1, .int x2, .int x3]) (TQi (fun x H' => TI D vwCl (tysOf c0) (RTg ν) Y H') Y [0, 1, 2, 3, 4, 7, 8, 20, 22, 28, 29, 40]) 0 0 (pW Y [0, 1, 2, 3, 4, 7, 8, 20, 22, 28, 29, 40]) := by
  refine Met.ofW (cc := cX9_plan) (maxL := 7) (ret := (some .int)) (by decide) rfl ?_
  intro p e s m args below meth c s₁ B hml hv
  obtain ⟨rfl, rfl, hK⟩ := hv
  have hx := B.exec
  have hb := B.bytes
  have hr := B.returns
  have hts : ∀ w ∈ wq, w.before _ s = true := fun w h => atoms_spec (ws := wz yX9_plan cX9_plan 7 (some .int)) B.pre w (List.mem_cons_of_mem _ h)
  have hown : s.vm.findClass RX9 = some m.cls := findClass_of_methodNamed B.named
  have hlocks := B.notSynchronized
  obtain ⟨R, hR⟩ : ∃ R : Room, R = ({ frames := 7, cells := 0, slots := 0, locals := 194 } : Room) := ⟨_, rfl⟩
  rw [show (headSpec (wz yX9_plan cX9_plan 7 (some .int)) { frames := 7, cells := 0, slots := 0, locals := 194 }).room = R from hR.symm]
  refine ti_mi hx hb hr hlocks (fun Q ret => ?_)
  have hl := lv_entry [.ref a0, .int x1, .int x2, .int x3] (n := 7) (Nat.le_of_ble_eq_true rfl)
  rw [lg_entry_eq]
  generalize (lg_sl [.ref a0, .int x1, .int x2, .int x3] ++ List.replicate (7 - (lg_sl [.ref a0, .int x1, .int x2, .int x3]).length) Slot.unset).toArray = ls at hl ⊢
  have hl : lv_has ls 7 [(0, .ref a0), (1, .int x1), (2, .int x2), (3, .int x3)] := hl
  refine ti_gen (P := fun H => TI D vwCl (tysOf c0) (RTg ν) Y H) (Y := Y) (ws := [0, 1, 2, 3, 4, 7, 8, 20, 22, 28, 29, 40]) hT (fun H locs hT hS => ?_)
  refine lv_aload_n hx hb dX9_plan_0 rfl (lv_at hl 0 rfl) ?_
  refine lv_iload_n hx hb dX9_plan_1 rfl (lv_at hl 1 rfl) ?_
  refine lv_i2l hx hb dX9_plan_2 rfl ?_
  refine lv_topl (fun v2 e2 => ?_)
  have hv2 : jv v2 (-2147483648) 2147483647 := by rw [e2]; exact jv_i hx1
  have t2 : v2.toInt = x1.toInt := by rw [e2]; exact jv_e _
  refine ti_calli (va_runV (As := [.long v2]) (rest := []) ⟨hx, hb, hml, hown, hts⟩ (t_X9_isPerson l hT ha0 (jv_w hv2 (by decide))) (cwV 1 hts (good_V kw_476 kw_477 kw_478 kw_2 kw_479) rfl rfl rfl (by decide +kernel) ⟨by rw [hR]; decide, by rw [hR]; decide⟩) (ti_preV hK hT ha0 rfl rfl) rfl rfl hl.1 rfl (lv_room (Nat.le_of_ble_eq_true rfl)) dX9_plan_3 ⟨Nat.zero_le _, Nat.zero_le _⟩) hS (pW_sub rfl) (fun v3 H1 locs hB hS _ hk3 => ?_)
  obtain ⟨hH, hv3, hp3⟩ := hB
  rw [hH] at hS ⊢
  refine lv_if_eq (tgt := 28) hx hb dX9_plan_6 (by decide) (fun c6 => ?_) (fun c6 => ?_)
  · skip
    have kl0 : (0 : Int32).toInt = 0 := by decide
    have f6 := i_eq c6
    have hv3_6l : iv v3 0 0 := iv_eql hv3 (iv_c (x := (0 : Int32)) (k := 0) (by decide)) c6 (by decide)
    refine lv_ldc (v := (-2000000000)) hx hb hown (hts _ kw_1003) dX9_plan_28 ?_
    exact ret _ _ _ _ _ dX9_plan_30 (hT) hS
  · skip
    have kl0 : (0 : Int32).toInt = 0 := by decide
    have f6 := i_ne c6
    have hv3_6l : iv v3 1 1 := iv_nel hv3 (iv_c (x := (0 : Int32)) (k := 0) (by decide)) c6 (by decide)
    have hv2_6p : jv v2 0 7 := by have b0a := (hv2).1; have b0b := (hv2).2; exact ⟨by omega, by omega⟩
    have hx1_6p : iv x1 0 7 := by have := t2; have b0a := (hv2_6p).1; have b0b := (hv2_6p).2; have b1a := (hx1).1; have b1b := (hx1).2; exact ⟨by omega, by omega⟩
    refine lv_iload_n hx hb dX9_plan_9 rfl (lv_at hl 2 rfl) ?_
    refine lv_iconst (v := 1) hx hb dX9_plan_10 (by decide) ?_
    refine lv_icmp_lt (tgt := 28) hx hb dX9_plan_11 (by decide) (fun c11 => ?_) (fun c11 => ?_)
    · skip
      have kl1 : (1 : Int32).toInt = 1 := by decide
      have f11 := i_lt c11
      have hx2_11l : iv x2 (-2147483648) 0 := iv_ltl hx2 (iv_c (x := (1 : Int32)) (k := 1) (by decide)) c11 (by decide)
      refine lv_ldc (v := (-2000000000)) hx hb hown (hts _ kw_1003) dX9_plan_28 ?_
      exact ret _ _ _ _ _ dX9_plan_30 (hT) hS
    · skip
      have kl1 : (1 : Int32).toInt = 1 := by decide
      have f11 := i_nlt c11
      have hx2_11r : iv x2 1 2147483647 := iv_ler (iv_c (x := (1 : Int32)) (k := 1) (by decide)) hx2 (Int32.not_lt.mp c11) (by decide)
      refine lv_iload_n hx hb dX9_plan_14 rfl (lv_at hl 2 rfl) ?_
      refine lv_iconst (v := 3) hx hb dX9_plan_15 (by decide) ?_
      refine lv_icmp_gt (tgt := 28) hx hb dX9_plan_16 (by decide) (fun c16 => ?_) (fun c16 => ?_)
      · skip
        have kl3 : (3 : Int32).toInt = 3 := by decide
        have f16 := i_lt c16
        have hx2_16r : iv x2 4 2147483647 := iv_ltr (iv_c (x := (3 : Int32)) (k := 3) (by decide)) hx2_11r c16 (by decide)
        refine lv_ldc (v := (-2000000000)) hx hb hown (hts _ kw_1003) dX9_plan_28 ?_
        exact ret _ _ _ _ _ dX9_plan_30 (hT) hS
      · skip
        have kl3 : (3 : Int32).toInt = 3 := by decide
        have f16 := i_nlt c16
        have hx2_16l : iv x2 1 3 := iv_lel hx2_11r (iv_c (x := (3 : Int32)) (k := 3) (by decide)) (Int32.not_lt.mp c16) (by decide)
        refine lv_iload_n hx hb dX9_plan_19 rfl (lv_at hl 3 rfl) ?_
        refine lv_if_lt (tgt := 28) hx hb dX9_plan_20 (by decide) (fun c20 => ?_) (fun c20 => ?_)
        · skip
          have f20 := i_lt c20
          have hx3_20l : iv x3 (-2147483648) (-1) := iv_ltl hx3 (iv_c (x := (0 : Int32)) (k := 0) (by decide)) c20 (by decide)
          refine lv_ldc (v := (-2000000000)) hx hb hown (hts _ kw_1003) dX9_plan_28 ?_
          exact ret _ _ _ _ _ dX9_plan_30 (hT) hS
        · skip
          have f20 := i_nlt c20
          have hx3_20r : iv x3 0 2147483647 := iv_ler (iv_c (x := (0 : Int32)) (k := 0) (by decide)) hx3 (Int32.not_lt.mp c20) (by decide)
          refine lv_iload_n hx hb dX9_plan_23 rfl (lv_at hl 3 rfl) ?_
          refine lv_iload_n hx hb dX9_plan_24 rfl (lv_at hl 2 rfl) ?_
          refine lv_icmp_le (tgt := 31) hx hb dX9_plan_25 (by decide) (fun c25 => ?_) (fun c25 => ?_)
          · skip
            have f25 := i_le c25
            have hx3_25l : iv x3 0 3 := iv_lel hx3_20r hx2_16l c25 (by decide)
            refine lv_iconst (v := 1) hx hb dX9_plan_31 (by decide) ?_
            refine lv_istore (lv' := [(4, .int (1 : Int32)), (0, .ref a0), (1, .int x1), (2, .int x2), (3, .int x3)]) hx hb dX9_plan_32 hl (by decide) rfl (fun ls hl => ?_)
            refine lv_iconst (v := 0) hx hb dX9_plan_34 (by decide) ?_
            have J37 : ∀ (n : Nat) (j37_L4 : Int32) (j37_L5 : Int32) (H : Heap) (locs : List Loc) (ls : Array Slot), (3 - j37_L5.toInt).toNat < n → iv j37_L4 (-2147483648) 2147483647 → iv j37_L5 0 3 → TI D vwCl (tysOf c0) (RTg ν) Y H → va_S (pW Y [0, 1, 2, 3, 4, 7, 8, 20, 22, 28, 29, 40]) s.heap H locs → lv_has ls 7 [(0, .ref a0), (1, .int x1), (2, .int x2), (3, .int x3), (4, .int j37_L4), (5, .int j37_L5)] → W p l e R s m ([.ref a0, .int x1, .int x2, .int x3] : List Value).toArray below meth c H locs 0 0 Q (F0 m 37 ls []) := by
              intro n
              induction n with
              | zero => intro j37_L4 j37_L5 H locs ls hms; exact absurd hms (Nat.not_lt_zero _)
              | succ n ih37 =>
                intro j37_L4 j37_L5 H locs ls hms37 hj37_L4 hj37_L5 hT hS hl
                refine lv_iload hx hb dX9_plan_37 (lv_at hl 5 rfl) ?_
                refine lv_iload_n hx hb dX9_plan_39 rfl (lv_at hl 2 rfl) ?_
                refine lv_icmp_ge (tgt := 56) hx hb dX9_plan_40 (by decide) (fun c40 => ?_) (fun c40 => ?_)
                · skip
                  have f40 := i_le c40
                  have hj37_L5_40r : iv j37_L5 1 3 := iv_ler hx2_16l hj37_L5 c40 (by decide)
                  refine lv_aload_n hx hb dX9_plan_56 rfl (lv_at hl 0 rfl) ?_
                  refine ti_getr hx hb hts inlX9 hown hK hT ha0 rfl rfl rfl 10 (by decide) (hts _ kw_41) (fun _ h9 => h9) rfl dX9_plan_57 (fun v57 hv57 hm57 => ?_)
                  refine lv_iconst (v := 0) hx hb dX9_plan_60 (by decide) ?_
                  refine lv_ldc (v := (-2000000000)) hx hb hown (hts _ kw_1003) dX9_plan_61 ?_
                  refine ti_iast hx hb (aT0 hK) hT hS hv57 rfl rfl (iv_c (x := (0 : Int32)) (k := 0) (by decide)) (by decide) (fun _ _ _ => ⟨_, _, rfl, by decide, by decide⟩) (iv_c (x := (-2000000000 : Int32)) (k := (-2000000000)) (by decide)) (fun _ _ => trivial) dX9_plan_63 (fun H locs hT hS oq63 he63 hk63 => ?_)
                  refine lv_iconst (v := 0) hx hb dX9_plan_64 (by decide) ?_
                  have J67 : ∀ (n : Nat) (j67_L5 : Int32) (H : Heap) (locs : List Loc) (ls : Array Slot), (2147483647 - j67_L5.toInt).toNat < n → iv j67_L5 0 2147483647 → TI D vwCl (tysOf c0) (RTg ν) Y H → va_S (pW Y [0, 1, 2, 3, 4, 7, 8, 20, 22, 28, 29, 40]) s.heap H locs → lv_has ls 7 [(0, .ref a0), (1, .int x1), (2, .int x2), (3, .int x3), (4, .int j37_L4), (5, .int j67_L5)] → W p l e R s m ([.ref a0, .int x1, .int x2, .int x3] : List Value).toArray below meth c H locs 0 0 Q (F0 m 67 ls []) := by
                    intro n
                    induction n with
                    | zero => intro j67_L5 H locs ls hms; exact absurd hms (Nat.not_lt_zero _)
                    | succ n ih67 =>
                      intro j67_L5 H locs ls hms67 hj67_L5 hT hS hl
                      refine lv_iload hx hb dX9_plan_67 (lv_at hl 5 rfl) ?_
                      refine lv_iload hx hb dX9_plan_69 (lv_at hl 4 rfl) ?_
                      refine lv_icmp_ge (tgt := 118) hx hb dX9_plan_71 (by decide) (fun c71 => ?_) (fun c71 => ?_)
                      · skip
                        have f71 := i_le c71
                        refine lv_aload_n hx hb dX9_plan_118 rfl (lv_at hl 0 rfl) ?_
                        refine ti_getr hx hb hts inlX9 hown hK hT ha0 rfl rfl rfl 10 (by decide) (hts _ kw_41) (fun _ h9 => h9) rfl dX9_plan_119 (fun v119 hv119 hm119 => ?_)
                        refine lv_iload_n hx hb dX9_plan_122 rfl (lv_at hl 3 rfl) ?_
                        refine ti_iald (lo := (-2147483648)) (hi := 2147483647) hx hb (aT0 hK) hT hv119 rfl hx3_25l (by decide) (fun _ _ _ => ⟨_, _, rfl, by decide, by decide⟩) dX9_plan_123 (fun v123 hv123 hm123 => ?_)
                        exact ret _ _ _ _ _ dX9_plan_124 (hT) hS
                      · skip
                        have f71 := i_nle c71
                        have hj67_L5_71l : iv j67_L5 0 2147483646 := iv_ltl hj67_L5 hj37_L4 (Int32.not_le.mp c71) (by decide)
                        have hj37_L4_71r : iv j37_L4 1 2147483647 := iv_ltr hj67_L5_71l hj37_L4 (Int32.not_le.mp c71) (by decide)
                        refine lv_aload_n hx hb dX9_plan_74 rfl (lv_at hl 0 rfl) ?_
                        refine lv_iload_n hx hb dX9_plan_75 rfl (lv_at hl 1 rfl) ?_
                        refine lv_iload_n hx hb dX9_plan_76 rfl (lv_at hl 2 rfl) ?_
                        refine lv_iload hx hb dX9_plan_77 (lv_at hl 5 rfl) ?_
                        refine lv_iload hx hb dX9_plan_79 (lv_at hl 4 rfl) ?_
                        refine ti_calli (va_runV (As := [.int x1, .int x2, .int j67_L5, .int j37_L4]) (rest := []) ⟨hx, hb, hml, hown, hts⟩ (t_X9_goodByRow l hT ha0 (iv_w hx1_6p (by decide)) (iv_w hx2_16l (by decide)) (iv_w hj67_L5_71l (by decide)) (iv_w hj37_L4_71r (by decide))) (cwV 4 hts (good_V kw_1434 kw_1435 kw_1436 kw_2 kw_1437) rfl rfl rfl (by decide +kernel) ⟨by rw [hR]; decide, by rw [hR]; decide⟩) (ti_preV hK hT ha0 rfl rfl) rfl rfl hl.1 rfl (lv_room (Nat.le_of_ble_eq_true rfl)) dX9_plan_81 ⟨Nat.zero_le _, Nat.zero_le _⟩) hS (pW_sub rfl) (fun v81 H locs hB hS _ hk81 => ?_)
                        have hT := hB
                        refine lv_istore (lv' := [(6, .int v81), (0, .ref a0), (1, .int x1), (2, .int x2), (3, .int x3), (4, .int j37_L4), (5, .int j67_L5)]) hx hb dX9_plan_84 hl (by decide) rfl (fun ls hl => ?_)
                        refine lv_iload hx hb dX9_plan_86 (lv_at hl 0 rfl) ?_
                        refine lv_aload_n hx hb dX9_plan_88 rfl (lv_at hl 1 rfl) ?_
                        refine ti_getr hx hb hts inlX9 hown hK hT ha0 rfl rfl rfl 10 (by decide) (hts _ kw_41) (fun _ h9 => h9) rfl dX9_plan_89 (fun v89 hv89 hm89 => ?_)
                        refine lv_iconst (v := 0) hx hb dX9_plan_92 (by decide) ?_
                        refine ti_iald (lo := (-2147483648)) (hi := 2147483647) hx hb (aT0 hK) hT hv89 rfl (iv_c (x := (0 : Int32)) (k := 0) (by decide)) (by decide) (fun _ _ _ => ⟨_, _, rfl, by decide, by decide⟩) dX9_plan_93 (fun v93 hv93 hm93 => ?_)
                        have J112 : ∀  (H : Heap) (locs : List Loc) (ls : Array Slot), TI D vwCl (tysOf c0) (RTg ν) Y H → va_S (pW Y [0, 1, 2, 3, 4, 7, 8, 20, 22, 28, 29, 40]) s.heap H locs → lv_has ls 7 [(0, .ref a0), (1, .int x1), (2, .int x2), (3, .int x3), (4, .int j37_L4), (5, .int j67_L5), (6, .int v81)] → W p l e R s m ([.ref a0, .int x1, .int x2, .int x3] : List Value).toArray below meth c H locs 0 0 Q (F0 m 112 ls []) := by
                          intro  H locs ls  hT hS hl
                          obtain ⟨v112, e112⟩ : ∃ y : Int32, y = j67_L5 + 1 := ⟨_, rfl⟩
                          have hv112 : iv v112 1 2147483647 := by rw [e112]; exact iv_w (iv_add hj67_L5_71l (iv_c (x := (1 : Int32)) (k := 1) (by decide)) (by decide)) (by decide)
                          have s112 : v112.toInt = j67_L5.toInt + 1 := by rw [e112, iv_addE hj67_L5_71l (iv_c (x := (1 : Int32)) (k := 1) (by decide)) (by decide)]; rfl
                          refine lv_iinc (v := v112) (lv' := [(5, .int v112), (0, .ref a0), (1, .int x1), (2, .int x2), (3, .int x3), (4, .int j37_L4), (6, .int v81)]) hx hb dX9_plan_112 hl (k := 5) rfl (by rw [e112]; rfl) (by decide) rfl (fun ls hl => ?_)
                          refine lv_goto (tgt := 67) hx hb dX9_plan_115 (by decide) ?_
                          exact ih67 v112 _ _ _ (ms_up hms67 (by have := s112; omega) (iv_w (c := 1) (d := 2147483647) hv112 (by decide)).2) (iv_w hv112 (by decide)) hT hS (lv_sub hl [1, 2, 3, 4, 5, 0] rfl)
                        refine lv_icmp_le (tgt := 112) hx hb dX9_plan_94 (by decide) (fun c94 => ?_) (fun c94 => ?_)
                        · skip
                          have f94 := i_le c94
                          exact J112  _ _ _   hT hS (lv_sub hl [1, 2, 3, 4, 5, 6, 0] rfl)
                        · skip
                          have f94 := i_nle c94
                          have hv93_94l : iv v93 (-2147483648) 2147483646 := iv_ltl hv93 (iv_top v81) (Int32.not_le.mp c94) (by decide)
                          have hv81_94r : iv v81 (-2147483647) 2147483647 := iv_ltr hv93_94l (iv_top v81) (Int32.not_le.mp c94) (by decide)
                          refine lv_aload_n hx hb dX9_plan_97 rfl (lv_at hl 1 rfl) ?_
                          refine ti_getE (ci := 9) (v := .ref v89) hx hb hts inlX9 hown hK hm89 rfl (by decide) (hts _ kw_41) (fun _ h9 => h9) dX9_plan_98 ?_
                          refine lv_iconst (v := 0) hx hb dX9_plan_101 (by decide) ?_
                          refine lv_iload hx hb dX9_plan_102 (lv_at hl 0 rfl) ?_
                          refine ti_iast hx hb (aT0 hK) hT hS hv89 rfl rfl (iv_c (x := (0 : Int32)) (k := 0) (by decide)) (by decide) (fun _ _ _ => ⟨_, _, rfl, by decide, by decide⟩) hv81_94r (fun _ _ => trivial) dX9_plan_104 (fun H locs hT hS oq104 he104 hk104 => ?_)
                          refine lv_aload_n hx hb dX9_plan_105 rfl (lv_at hl 1 rfl) ?_
                          refine lv_iload_n hx hb dX9_plan_106 rfl (lv_at hl 3 rfl) ?_
                          refine lv_iload hx hb dX9_plan_107 (lv_at hl 6 rfl) ?_
                          refine ti_callv (va_runV (As := [.int x2, .int j67_L5]) (rest := []) ⟨hx, hb, hml, hown, hts⟩ (t_X9_notePlan l hT ha0 (iv_w hx2_16l (by decide)) (iv_w hj67_L5_71l (by decide))) (cwV 2 hts (good_V kw_1438 kw_1439 kw_1440 kw_2 kw_1441) rfl rfl rfl (by decide +kernel) ⟨by rw [hR]; decide, by rw [hR]; decide⟩) (ti_preV hK hT ha0 rfl rfl) rfl rfl hl.1 rfl (lv_room (Nat.le_of_ble_eq_true rfl)) dX9_plan_109 ⟨Nat.zero_le _, Nat.zero_le _⟩) hS (pW_sub rfl) (fun H locs hB hS _ hk109 => ?_)
                          have hT := hB
                          exact J112  _ _ _   hT hS (lv_sub hl [1, 2, 3, 4, 5, 6, 0] rfl)
                  refine lv_istore (lv' := [(5, .int (0 : Int32)), (0, .ref a0), (1, .int x1), (2, .int x2), (3, .int x3), (4, .int j37_L4)]) hx hb dX9_plan_65 hl (by decide) rfl (fun ls hl => ?_)
                  exact J67 _ (0 : Int32) _ _ _ (Nat.lt_succ_self _) (iv_w (iv_c (x := (0 : Int32)) (k := 0) (by decide)) (by decide)) hT hS (lv_sub hl [1, 2, 3, 4, 5, 0] rfl)
                · skip
                  have f40 := i_nle c40
                  have hj37_L5_40l : iv j37_L5 0 2 := iv_ltl hj37_L5 hx2_16l (Int32.not_le.mp c40) (by decide)
                  refine lv_iload hx hb dX9_plan_43 (lv_at hl 4 rfl) ?_
                  refine lv_bipush (v := 6) hx hb dX9_plan_45 (by decide) ?_
                  refine lv_imul hx hb dX9_plan_47 ?_
                  refine lv_topi (fun v47 e47 => ?_)
                  have hv47 : iv v47 (-2147483648) 2147483647 := iv_top _
                  refine lv_istore (lv' := [(4, .int v47), (0, .ref a0), (1, .int x1), (2, .int x2), (3, .int x3), (5, .int j37_L5)]) hx hb dX9_plan_48 hl (by decide) rfl (fun ls hl => ?_)
                  obtain ⟨v50, e50⟩ : ∃ y : Int32, y = j37_L5 + 1 := ⟨_, rfl⟩
                  have hv50 : iv v50 1 3 := by rw [e50]; exact iv_w (iv_add hj37_L5_40l (iv_c (x := (1 : Int32)) (k := 1) (by decide)) (by decide)) (by decide)
                  have s50 : v50.toInt = j37_L5.toInt + 1 := by rw [e50, iv_addE hj37_L5_40l (iv_c (x := (1 : Int32)) (k := 1) (by decide)) (by decide)]; rfl
                  refine lv_iinc (v := v50) (lv' := [(5, .int v50), (4, .int v47), (0, .ref a0), (1, .int x1), (2, .int x2), (3, .int x3)]) hx hb dX9_plan_50 hl (k := 5) rfl (by rw [e50]; rfl) (by decide) rfl (fun ls hl => ?_)
                  refine lv_goto (tgt := 37) hx hb dX9_plan_53 (by decide) ?_
                  exact ih37 v47 v50 _ _ _ (ms_up hms37 (by have := s50; omega) (iv_w (c := 1) (d := 3) hv50 (by decide)).2) (iv_w hv47 (by decide)) (iv_w hv50 (by decide)) hT hS (lv_sub hl [2, 3, 4, 5, 1, 0] rfl)
            refine lv_istore (lv' := [(5, .int (0 : Int32)), (4, .int (1 : Int32)), (0, .ref a0), (1, .int x1), (2, .int x2), (3, .int x3)]) hx hb dX9_plan_35 hl (by decide) rfl (fun ls hl => ?_)
            exact J37 _ (1 : Int32) (0 : Int32) _ _ _ (Nat.lt_succ_self _) (iv_w (iv_c (x := (1 : Int32)) (k := 1) (by decide)) (by decide)) (iv_w (iv_c (x := (0 : Int32)) (k := 0) (by decide)) (by decide)) hT hS (lv_sub hl [2, 3, 4, 5, 1, 0] rfl)
          · skip
            have f25 := i_nle c25
            have hx3_25r : iv x3 2 2147483647 := iv_ltr hx2_16l hx3_20r (Int32.not_le.mp c25) (by decide)
            refine lv_ldc (v := (-2000000000)) hx hb hown (hts _ kw_1003) dX9_plan_28 ?_
            exact ret _ _ _ _ _ dX9_plan_30 (hT) hS
set_option maxHeartbeats 4000000 in
set_option maxRecDepth 100000 in
theorem t_X9_open (l : Launch) {D : va_G} {c0 : Nat → ClassId} {Y : Nat → Option Nat} {ν : Nat → Nat} {H : Heap} (hT : TI D vwCl (tysOf c0) (RTg ν) Y H) {a0 : Nat} (ha0 : Y a0 = some 9) : Met l yX9_open (wz yX9_open cX9_open 3 (some .int)) { frames := 2, cells := 0, slots := 0, locals := 45 } (TP D vwCl (tysOf c0) H [.ref a0]) (TQi (fun x H' => TI D vwCl (tysOf c0) (RTg ν) Y H') Y [3, 7]) 0 0 (pW Y [3, 7]) := by
  refine Met.ofW (cc := cX9_open) (maxL := 3) (ret := (some .int)) (by decide) rfl ?_
  intro p e s m args below meth c s₁ B hml hv
  obtain ⟨rfl, rfl, hK⟩ := hv
  have hx := B.exec
  have hb := B.bytes
  have hr := B.returns
  have hts : ∀ w ∈ wq, w.before _ s = true := fun w h => atoms_spec (ws := wz yX9_open cX9_open 3 (some .int)) B.pre w (List.mem_cons_of_mem _ h)
  have hown : s.vm.findClass RX9 = some m.cls := findClass_of_methodNamed B.named
  have hlocks := B.notSynchronized
  obtain ⟨R, hR⟩ : ∃ R : Room, R = ({ frames := 2, cells := 0, slots := 0, locals := 45 } : Room) := ⟨_, rfl⟩
  rw [show (headSpec (wz yX9_open cX9_open 3 (some .int)) { frames := 2, cells := 0, slots := 0, locals := 45 }).room = R from hR.symm]
  refine ti_mi hx hb hr hlocks (fun Q ret => ?_)
  have hl := lv_entry [.ref a0] (n := 3) (Nat.le_of_ble_eq_true rfl)
  rw [lg_entry_eq]
  generalize (lg_sl [.ref a0] ++ List.replicate (3 - (lg_sl [.ref a0]).length) Slot.unset).toArray = ls at hl ⊢
  have hl : lv_has ls 3 [(0, .ref a0)] := hl
  refine ti_gen (P := fun H => TI D vwCl (tysOf c0) (RTg ν) Y H) (Y := Y) (ws := [3, 7]) hT (fun H locs hT hS => ?_)
  refine lv_aload_n hx hb dX9_open_0 rfl (lv_at hl 0 rfl) ?_
  refine ti_getr hx hb hts inlX9 hown hK hT ha0 rfl rfl rfl 1 (by decide) (hts _ kw_20) (fun _ h9 => h9) rfl dX9_open_1 (fun v1 hv1 hm1 => ?_)
  refine ti_geti hx hb hts inlX7 hown hK hT hv1 rfl rfl rfl 1 (by decide) (hts _ kw_480) (fun _ h9 => h9) rfl dX9_open_4 (fun v4 hv4 hm4 => ?_)
  refine lv_if_ne (tgt := 13) hx hb dX9_open_7 (by decide) (fun c7 => ?_) (fun c7 => ?_)
  · skip
    have kl0 : (0 : Int32).toInt = 0 := by decide
    have f7 := i_ne c7
    have hv4_7l : iv v4 1 8 := iv_nel hv4 (iv_c (x := (0 : Int32)) (k := 0) (by decide)) c7 (by decide)
    refine lv_aload_n hx hb dX9_open_13 rfl (lv_at hl 0 rfl) ?_
    refine ti_getE (ci := 9) (v := .ref v1) hx hb hts inlX9 hown hK hm1 rfl (by decide) (hts _ kw_20) (fun _ h9 => h9) dX9_open_14 ?_
    refine ti_geti hx hb hts inlX7 hown hK hT hv1 rfl rfl rfl 3 (by decide) (hts _ kw_1450) (fun _ h9 => h9) rfl dX9_open_17 (fun v17 hv17 hm17 => ?_)
    refine lv_aload_n hx hb dX9_open_20 rfl (lv_at hl 0 rfl) ?_
    refine ti_getE (ci := 9) (v := .ref v1) hx hb hts inlX9 hown hK hm1 rfl (by decide) (hts _ kw_20) (fun _ h9 => h9) dX9_open_21 ?_
    refine ti_getE (ci := 7) (v := .int v4) hx hb hts inlX7 hown hK hm4 rfl (by decide) (hts _ kw_480) (fun _ h9 => h9) dX9_open_24 ?_
    refine lv_idiv hx hb dX9_open_27 (iv_ne0 hv4_7l (by decide)) ?_
    refine lv_topi (fun v27 e27 => ?_)
    have hv27 : iv v27 (-2147483648) 2147483647 := by rw [e27]; exact iv_div hv17 hv4_7l (by decide)
    refine lv_istore_n (lv' := [(1, .int v27), (0, .ref a0)]) hx hb dX9_open_28 rfl hl (by decide) rfl (fun ls hl => ?_)
    refine lv_iconst (v := 0) hx hb dX9_open_29 (by decide) ?_
    have J31 : ∀ (n : Nat) (j31_L2 : Int32) (H : Heap) (locs : List Loc) (ls : Array Slot), (8 - j31_L2.toInt).toNat < n → iv j31_L2 0 8 → TI D vwCl (tysOf c0) (RTg ν) Y H → va_S (pW Y [3, 7]) s.heap H locs → lv_has ls 3 [(0, .ref a0), (1, .int v27), (2, .int j31_L2)] → W p l e R s m ([.ref a0] : List Value).toArray below meth c H locs 0 0 Q (F0 m 31 ls []) := by
      intro n
      induction n with
      | zero => intro j31_L2 H locs ls hms; exact absurd hms (Nat.not_lt_zero _)
      | succ n ih31 =>
        intro j31_L2 H locs ls hms31 hj31_L2 hT hS hl
        refine lv_iload_n hx hb dX9_open_31 rfl (lv_at hl 2 rfl) ?_
        refine lv_aload_n hx hb dX9_open_32 rfl (lv_at hl 0 rfl) ?_
        refine ti_getr hx hb hts inlX9 hown hK hT ha0 rfl rfl rfl 1 (by decide) (hts _ kw_20) (fun _ h9 => h9) rfl dX9_open_33 (fun v33 hv33 hm33 => ?_)
        refine ti_geti hx hb hts inlX7 hown hK hT hv33 rfl rfl rfl 1 (by decide) (hts _ kw_480) (fun _ h9 => h9) rfl dX9_open_36 (fun v36 hv36 hm36 => ?_)
        refine lv_icmp_ge (tgt := 57) hx hb dX9_open_39 (by decide) (fun c39 => ?_) (fun c39 => ?_)
        · skip
          have f39 := i_le c39
          refine lv_aload_n hx hb dX9_open_57 rfl (lv_at hl 0 rfl) ?_
          refine ti_getE (ci := 9) (v := .ref v33) hx hb hts inlX9 hown hK hm33 rfl (by decide) (hts _ kw_20) (fun _ h9 => h9) dX9_open_58 ?_
          refine lv_dup hx hb dX9_open_61 rfl ?_
          refine ti_geti hx hb hts inlX7 hown hK hT hv33 rfl rfl rfl 3 (by decide) (hts _ kw_1450) (fun _ h9 => h9) rfl dX9_open_62 (fun v62 hv62 hm62 => ?_)
          refine lv_iload_n hx hb dX9_open_65 rfl (lv_at hl 1 rfl) ?_
          refine lv_aload_n hx hb dX9_open_66 rfl (lv_at hl 0 rfl) ?_
          refine ti_getE (ci := 9) (v := .ref v33) hx hb hts inlX9 hown hK hm33 rfl (by decide) (hts _ kw_20) (fun _ h9 => h9) dX9_open_67 ?_
          refine ti_getE (ci := 7) (v := .int v36) hx hb hts inlX7 hown hK hm36 rfl (by decide) (hts _ kw_480) (fun _ h9 => h9) dX9_open_70 ?_
          refine lv_imul hx hb dX9_open_73 ?_
          refine lv_topi (fun v73 e73 => ?_)
          have hv73 : iv v73 (-2147483648) 2147483647 := iv_top _
          refine lv_isub hx hb dX9_open_74 ?_
          refine lv_topi (fun v74 e74 => ?_)
          have hv74 : iv v74 (-2147483648) 2147483647 := iv_top _
          refine ti_put (ty := .int) hx hb hts inlX7 tyX7 tyX7_ok nmX7 hown hK hT hS hv33 rfl rfl rfl rfl 3 (by decide) (hts _ kw_1450) (fun _ h9 => h9) rfl rfl (by decide +kernel) rfl rfl ⟨v74, rfl, iv_w hv74 (by decide)⟩ (fun _ _ => trivial) dX9_open_75 (fun H locs hT hS oq75 he75 hk75 => ?_)
          refine lv_iload_n hx hb dX9_open_78 rfl (lv_at hl 1 rfl) ?_
          exact ret _ _ _ _ _ dX9_open_79 (hT) hS
        · skip
          have f39 := i_nle c39
          have hj31_L2_39l : iv j31_L2 0 7 := iv_ltl hj31_L2 hv36 (Int32.not_le.mp c39) (by decide)
          have hv36_39r : iv v36 1 8 := iv_ltr hj31_L2_39l hv36 (Int32.not_le.mp c39) (by decide)
          refine lv_aload_n hx hb dX9_open_42 rfl (lv_at hl 0 rfl) ?_
          refine ti_getE (ci := 9) (v := .ref v33) hx hb hts inlX9 hown hK hm33 rfl (by decide) (hts _ kw_20) (fun _ h9 => h9) dX9_open_43 ?_
          refine lv_iload_n hx hb dX9_open_46 rfl (lv_at hl 2 rfl) ?_
          refine lv_iload_n hx hb dX9_open_47 rfl (lv_at hl 1 rfl) ?_
          refine ti_callv (va_runV (As := [.int j31_L2, .int v27]) (rest := []) ⟨hx, hb, hml, hown, hts⟩ (t_X7_change l hT hv33 (iv_w hj31_L2_39l (by decide)) (iv_w hv27 (by decide))) (cwV 2 hts (good_V kw_1451 kw_699 kw_700 kw_19 kw_701) rfl rfl rfl (by decide +kernel) ⟨by rw [hR]; decide, by rw [hR]; decide⟩) (ti_preV hK hT hv33 rfl rfl) rfl rfl hl.1 rfl (lv_room (Nat.le_of_ble_eq_true rfl)) dX9_open_48 ⟨Nat.zero_le _, Nat.zero_le _⟩) hS (pW_sub rfl) (fun H locs hB hS _ hk48 => ?_)
          have hT := hB
          obtain ⟨v51, e51⟩ : ∃ y : Int32, y = j31_L2 + 1 := ⟨_, rfl⟩
          have hv51 : iv v51 1 8 := by rw [e51]; exact iv_w (iv_add hj31_L2_39l (iv_c (x := (1 : Int32)) (k := 1) (by decide)) (by decide)) (by decide)
          have s51 : v51.toInt = j31_L2.toInt + 1 := by rw [e51, iv_addE hj31_L2_39l (iv_c (x := (1 : Int32)) (k := 1) (by decide)) (by decide)]; rfl
          refine lv_iinc (v := v51) (lv' := [(2, .int v51), (0, .ref a0), (1, .int v27)]) hx hb dX9_open_51 hl (k := 2) rfl (by rw [e51]; rfl) (by decide) rfl (fun ls hl => ?_)
          refine lv_goto (tgt := 31) hx hb dX9_open_54 (by decide) ?_
          exact ih31 v51 _ _ _ (ms_up hms31 (by have := s51; omega) (iv_w (c := 1) (d := 8) hv51 (by decide)).2) (iv_w hv51 (by decide)) hT hS (lv_sub hl [1, 2, 0] rfl)
    refine lv_istore_n (lv' := [(2, .int (0 : Int32)), (1, .int v27), (0, .ref a0)]) hx hb dX9_open_30 rfl hl (by decide) rfl (fun ls hl => ?_)
    exact J31 _ (0 : Int32) _ _ _ (Nat.lt_succ_self _) (iv_w (iv_c (x := (0 : Int32)) (k := 0) (by decide)) (by decide)) hT hS (lv_sub hl [2, 1, 0] rfl)
  · skip
    have kl0 : (0 : Int32).toInt = 0 := by decide
    have f7 := i_eq c7
    have hv4_7l : iv v4 0 0 := iv_eql hv4 (iv_c (x := (0 : Int32)) (k := 0) (by decide)) c7 (by decide)
    refine lv_bipush (v := (-2)) hx hb dX9_open_10 (by decide) ?_
    exact ret _ _ _ _ _ dX9_open_12 (hT) hS
set_option maxHeartbeats 4000000 in
set_option maxRecDepth 100000 in
theorem t_X9_heldWorth (l : Launch) {D : va_G} {c0 : Nat → ClassId} {Y : Nat → Option Nat} {ν : Nat → Nat} {H : Heap} (hT : TI D vwCl (tysOf c0) (RTg ν) Y H) {a0 : Nat} (ha0 : Y a0 = some 9) {x1 : Int32} (hx1 : iv x1 0 7) {x2 : Int32} (hx2 : iv x2 (-2147483648) 2147483647) : Met l yX9_heldWorth (wz yX9_heldWorth cX9_heldWorth 4 (some .int)) { frames := 1, cells := 0, slots := 0, locals := 25 } (TP D vwCl (tysOf c0) H [.ref a0, .int x1, .int x2]) (TQi (fun x H' => H' = H) Y []) 0 0 (pW Y []) := by
  refine Met.ofW (cc := cX9_heldWorth) (maxL := 4) (ret := (some .int)) (by decide) rfl ?_
  intro p e s m args below meth c s₁ B hml hv
  obtain ⟨rfl, rfl, hK⟩ := hv
  have hx := B.exec
  have hb := B.bytes
  have hr := B.returns
  have hts : ∀ w ∈ wq, w.before _ s = true := fun w h => atoms_spec (ws := wz yX9_heldWorth cX9_heldWorth 4 (some .int)) B.pre w (List.mem_cons_of_mem _ h)
  have hown : s.vm.findClass RX9 = some m.cls := findClass_of_methodNamed B.named
  have hlocks := B.notSynchronized
  obtain ⟨R, hR⟩ : ∃ R : Room, R = ({ frames := 1, cells := 0, slots := 0, locals := 25 } : Room) := ⟨_, rfl⟩
  rw [show (headSpec (wz yX9_heldWorth cX9_heldWorth 4 (some .int)) { frames := 1, cells := 0, slots := 0, locals := 25 }).room = R from hR.symm]
  refine ti_mi hx hb hr hlocks (fun Q ret => ?_)
  have hl := lv_entry [.ref a0, .int x1, .int x2] (n := 4) (Nat.le_of_ble_eq_true rfl)
  rw [lg_entry_eq]
  generalize (lg_sl [.ref a0, .int x1, .int x2] ++ List.replicate (4 - (lg_sl [.ref a0, .int x1, .int x2]).length) Slot.unset).toArray = ls at hl ⊢
  have hl : lv_has ls 4 [(0, .ref a0), (1, .int x1), (2, .int x2)] := hl
  have hS : va_S (pW Y []) s.heap s.heap [] := va_S.rf
  refine lv_aload_n hx hb dX9_heldWorth_0 rfl (lv_at hl 0 rfl) ?_
  refine ti_getr hx hb hts inlX9 hown hK hT ha0 rfl rfl rfl 1 (by decide) (hts _ kw_20) (fun _ h9 => h9) rfl dX9_heldWorth_1 (fun v1 hv1 hm1 => ?_)
  refine ti_getr hx hb hts inlX7 hown hK hT hv1 rfl rfl rfl 8 (by decide) (hts _ kw_471) (fun _ h9 => h9) rfl dX9_heldWorth_4 (fun v4 hv4 hm4 => ?_)
  refine lv_iload_n hx hb dX9_heldWorth_7 rfl (lv_at hl 1 rfl) ?_
  refine ti_aald hx hb (aT6 hK) hT hv4 rfl hx1 (by decide) (fun _ _ _ => rfl) dX9_heldWorth_8 (fun v8 hv8 => ?_)
  refine lv_astore_n (lv' := [(3, .ref v8), (0, .ref a0), (1, .int x1), (2, .int x2)]) hx hb dX9_heldWorth_9 rfl hl (by decide) rfl (fun ls hl => ?_)
  refine lv_aload_n hx hb dX9_heldWorth_10 rfl (lv_at hl 0 rfl) ?_
  refine ti_geti hx hb hts inlX3 hown hK hT hv8 rfl rfl rfl 7 (by decide) (hts _ kw_1471) (fun _ h9 => h9) rfl dX9_heldWorth_11 (fun v11 hv11 hm11 => ?_)
  refine lv_aload_n hx hb dX9_heldWorth_14 rfl (lv_at hl 1 rfl) ?_
  refine ti_getr hx hb hts inlX9 hown hK hT ha0 rfl rfl rfl 6 (by decide) (hts _ kw_30) (fun _ h9 => h9) rfl dX9_heldWorth_15 (fun v15 hv15 hm15 => ?_)
  refine ti_getr hx hb hts inlX4 hown hK hT hv15 rfl rfl rfl 3 (by decide) (hts _ kw_1464) (fun _ h9 => h9) rfl dX9_heldWorth_18 (fun v18 hv18 hm18 => ?_)
  refine lv_iload_n hx hb dX9_heldWorth_21 rfl (lv_at hl 2 rfl) ?_
  refine ti_iald (lo := (-2147483648)) (hi := 2147483647) hx hb (aT0 hK) hT hv18 rfl hx1 (by decide) (fun _ _ _ => ⟨_, _, rfl, by decide, by decide⟩) dX9_heldWorth_22 (fun v22 hv22 hm22 => ?_)
  refine lv_imul hx hb dX9_heldWorth_23 ?_
  refine lv_topi (fun v23 e23 => ?_)
  have hv23 : iv v23 (-2147483648) 2147483647 := iv_top _
  refine lv_aload_n hx hb dX9_heldWorth_24 rfl (lv_at hl 0 rfl) ?_
  refine lv_iconst (v := 0) hx hb dX9_heldWorth_25 (by decide) ?_
  refine lv_iload_n hx hb dX9_heldWorth_26 rfl (lv_at hl 3 rfl) ?_
  refine ti_calli (va_runV (As := [.int (0 : Int32), .int x2]) (rest := [.int v23]) ⟨hx, hb, hml, hown, hts⟩ (t_X3_pleasure l hT hv8 (iv_w (iv_c (x := (0 : Int32)) (k := 0) (by decide)) (by decide)) (iv_w hx2 (by decide))) (cwV 2 hts (good_V kw_771 kw_772 kw_773 kw_68 kw_774) rfl rfl rfl (by decide +kernel) ⟨by rw [hR]; decide, by rw [hR]; decide⟩) (ti_preV hK hT hv8 rfl rfl) rfl rfl hl.1 rfl (lv_room (Nat.le_of_ble_eq_true rfl)) dX9_heldWorth_27 ⟨Nat.zero_le _, Nat.zero_le _⟩) hS (pW_sub rfl) (fun v27 H1 locs hB hS _ hk27 => ?_)
  have hH := hB
  rw [hH] at hS ⊢
  have kl0 : (0 : Int32).toInt = 0 := by decide
  refine lv_iadd hx hb dX9_heldWorth_30 ?_
  refine lv_topi (fun v30 e30 => ?_)
  have hv30 : iv v30 (-2147483648) 2147483647 := iv_top _
  exact ret _ _ _ _ _ dX9_heldWorth_31 (rfl) hS
set_option maxHeartbeats 4000000 in
set_option maxRecDepth 100000 in
theorem t_X9_fillDuel (l : Launch) {D : va_G} {c0 : Nat → ClassId} {Y : Nat → Option Nat} {ν : Nat → Nat} {H : Heap} (hT : TI D vwCl (tysOf c0) (RTg ν) Y H) {a0 : Nat} (ha0 : Y a0 = some 9) {x1 : Int32} (hx1 : iv x1 0 7) {x2 : Int32} (hx2 : iv x2 0 7) : Met l yX9_fillDuel (wz yX9_fillDuel cX9_fillDuel 6 none) { frames := 2, cells := 0, slots := 0, locals := 82 } (TP D vwCl (tysOf c0) H [.ref a0, .int x1, .int x2]) (TQv (fun H' => TI D vwCl (tysOf c0) (RTg ν) Y H') Y [4, 29]) 0 0 (pW Y [4, 29]) := by
  refine Met.ofW (cc := cX9_fillDuel) (maxL := 6) (ret := none) (by decide) rfl ?_
  intro p e s m args below meth c s₁ B hml hv
  obtain ⟨rfl, rfl, hK⟩ := hv
  have hx := B.exec
  have hb := B.bytes
  have hr := B.returns
  have hts : ∀ w ∈ wq, w.before _ s = true := fun w h => atoms_spec (ws := wz yX9_fillDuel cX9_fillDuel 6 none) B.pre w (List.mem_cons_of_mem _ h)
  have hown : s.vm.findClass RX9 = some m.cls := findClass_of_methodNamed B.named
  have hlocks := B.notSynchronized
  obtain ⟨R, hR⟩ : ∃ R : Room, R = ({ frames := 2, cells := 0, slots := 0, locals := 82 } : Room) := ⟨_, rfl⟩
  rw [show (headSpec (wz yX9_fillDuel cX9_fillDuel 6 none) { frames := 2, cells := 0, slots := 0, locals := 82 }).room = R from hR.symm]
  refine ti_mv hx hb hr hlocks (fun Q ret => ?_)
  have hl := lv_entry [.ref a0, .int x1, .int x2] (n := 6) (Nat.le_of_ble_eq_true rfl)
  rw [lg_entry_eq]
  generalize (lg_sl [.ref a0, .int x1, .int x2] ++ List.replicate (6 - (lg_sl [.ref a0, .int x1, .int x2]).length) Slot.unset).toArray = ls at hl ⊢
  have hl : lv_has ls 6 [(0, .ref a0), (1, .int x1), (2, .int x2)] := hl
  refine ti_gen (P := fun H => TI D vwCl (tysOf c0) (RTg ν) Y H) (Y := Y) (ws := [4, 29]) hT (fun H locs hT hS => ?_)
  refine lv_iconst (v := 0) hx hb dX9_fillDuel_0 (by decide) ?_
  have J2 : ∀ (n : Nat) (j2_L3 : Int32) (H : Heap) (locs : List Loc) (ls : Array Slot), (4 - j2_L3.toInt).toNat < n → iv j2_L3 0 4 → TI D vwCl (tysOf c0) (RTg ν) Y H → va_S (pW Y [4, 29]) s.heap H locs → lv_has ls 6 [(0, .ref a0), (1, .int x1), (2, .int x2), (3, .int j2_L3)] → W p l e R s m ([.ref a0, .int x1, .int x2] : List Value).toArray below meth c H locs 0 0 Q (F0 m 2 ls []) := by
    intro n
    induction n with
    | zero => intro j2_L3 H locs ls hms; exact absurd hms (Nat.not_lt_zero _)
    | succ n ih2 =>
      intro j2_L3 H locs ls hms2 hj2_L3 hT hS hl
      refine lv_iload_n hx hb dX9_fillDuel_2 rfl (lv_at hl 3 rfl) ?_
      refine lv_iconst (v := 4) hx hb dX9_fillDuel_3 (by decide) ?_
      refine lv_icmp_ge (tgt := 124) hx hb dX9_fillDuel_4 (by decide) (fun c4 => ?_) (fun c4 => ?_)
      · skip
        have kl4 : (4 : Int32).toInt = 4 := by decide
        have f4 := i_le c4
        have hj2_L3_4r : iv j2_L3 4 4 := iv_ler (iv_c (x := (4 : Int32)) (k := 4) (by decide)) hj2_L3 c4 (by decide)
        exact ret _ _ _ _ dX9_fillDuel_124 (hT) hS
      · skip
        have kl4 : (4 : Int32).toInt = 4 := by decide
        have f4 := i_nle c4
        have hj2_L3_4l : iv j2_L3 0 3 := iv_ltl hj2_L3 (iv_c (x := (4 : Int32)) (k := 4) (by decide)) (Int32.not_le.mp c4) (by decide)
        refine lv_aload_n hx hb dX9_fillDuel_7 rfl (lv_at hl 0 rfl) ?_
        refine ti_getr hx hb hts inlX9 hown hK hT ha0 rfl rfl rfl 6 (by decide) (hts _ kw_30) (fun _ h9 => h9) rfl dX9_fillDuel_8 (fun v8 hv8 hm8 => ?_)
        refine lv_aload_n hx hb dX9_fillDuel_11 rfl (lv_at hl 0 rfl) ?_
        refine ti_getr hx hb hts inlX9 hown hK hT ha0 rfl rfl rfl 1 (by decide) (hts _ kw_20) (fun _ h9 => h9) rfl dX9_fillDuel_12 (fun v12 hv12 hm12 => ?_)
        refine ti_callv (va_runV (As := [.ref v12]) (rest := []) ⟨hx, hb, hml, hown, hts⟩ (t_X4_load l hT hv8 hv12) (cwV 1 hts (good_V kw_576 kw_577 kw_578 kw_29 kw_579) rfl rfl rfl (by decide +kernel) ⟨by rw [hR]; decide, by rw [hR]; decide⟩) (ti_preV hK hT hv8 rfl rfl) rfl rfl hl.1 rfl (lv_room (Nat.le_of_ble_eq_true rfl)) dX9_fillDuel_15 ⟨Nat.zero_le _, Nat.zero_le _⟩) hS (pW_sub rfl) (fun H locs hB hS _ hk15 => ?_)
        have hT := hB
        refine lv_iload_n hx hb dX9_fillDuel_18 rfl (lv_at hl 3 rfl) ?_
        refine lv_iconst (v := 1) hx hb dX9_fillDuel_19 (by decide) ?_
        refine lv_iand hx hb dX9_fillDuel_20 ?_
        refine lv_topi (fun v20 e20 => ?_)
        have hv20 : iv v20 0 1 := by rw [e20]; exact iv_and (iv_w (iv_c (x := (1 : Int32)) (k := 1) (by decide)) (by decide))
        refine lv_aload_n hx hb dX9_fillDuel_21 rfl (lv_at hl 0 rfl) ?_
        refine ti_getE (ci := 9) (v := .ref v8) hx hb hts inlX9 hown hK (hm8.call hk15 (pW_not ha0 rfl)) rfl (by decide) (hts _ kw_30) (fun _ h9 => h9) dX9_fillDuel_22 ?_
        refine ti_getr hx hb hts inlX4 hown hK hT hv8 rfl rfl rfl 3 (by decide) (hts _ kw_1464) (fun _ h9 => h9) rfl dX9_fillDuel_25 (fun v25 hv25 hm25 => ?_)
        refine lv_iload_n hx hb dX9_fillDuel_28 rfl (lv_at hl 1 rfl) ?_
        refine ti_iald (lo := (-2147483648)) (hi := 2147483647) hx hb (aT0 hK) hT hv25 rfl hx1 (by decide) (fun _ _ _ => ⟨_, _, rfl, by decide, by decide⟩) dX9_fillDuel_29 (fun v29 hv29 hm29 => ?_)
        refine va_mmin hx hb (by rw [hml]; exact hl.1.symm) hown (hts _ kw_519) (hts _ kw_211) (hts _ kw_212) (hts _ kw_213) (by rw [hR]; decide) (by rw [hR]; exact Nat.le_of_ble_eq_true rfl) (Nat.zero_le _) (Nat.zero_le _) dX9_fillDuel_30 ?_
        refine lv_topi (fun v30 e30 => ?_)
        have hv30 : iv v30 (-2147483648) 1 := by rw [e30]; exact iv_min hv20 hv29 (by decide)
        refine lv_istore (lv' := [(4, .int v30), (0, .ref a0), (1, .int x1), (2, .int x2), (3, .int j2_L3)]) hx hb dX9_fillDuel_33 hl (by decide) rfl (fun ls hl => ?_)
        refine lv_iload_n hx hb dX9_fillDuel_35 rfl (lv_at hl 4 rfl) ?_
        refine lv_iconst (v := 1) hx hb dX9_fillDuel_36 (by decide) ?_
        refine lv_ishr hx hb dX9_fillDuel_37 ?_
        refine lv_topi (fun v37 e37 => ?_)
        have hv37 : iv v37 (-2147483648) 2147483647 := iv_top _
        refine lv_aload_n hx hb dX9_fillDuel_38 rfl (lv_at hl 1 rfl) ?_
        refine ti_getE (ci := 9) (v := .ref v8) hx hb hts inlX9 hown hK (hm8.call hk15 (pW_not ha0 rfl)) rfl (by decide) (hts _ kw_30) (fun _ h9 => h9) dX9_fillDuel_39 ?_
        refine ti_getE (ci := 4) (v := .ref v25) hx hb hts inlX4 hown hK hm25 rfl (by decide) (hts _ kw_1464) (fun _ h9 => h9) dX9_fillDuel_42 ?_
        refine lv_iload_n hx hb dX9_fillDuel_45 rfl (lv_at hl 3 rfl) ?_
        refine ti_iald (lo := (-2147483648)) (hi := 2147483647) hx hb (aT0 hK) hT hv25 rfl hx2 (by decide) (fun _ _ _ => ⟨_, _, rfl, by decide, by decide⟩) dX9_fillDuel_46 (fun v46 hv46 hm46 => ?_)
        refine va_mmin hx hb (by rw [hml]; exact hl.1.symm) hown (hts _ kw_519) (hts _ kw_211) (hts _ kw_212) (hts _ kw_213) (by rw [hR]; decide) (by rw [hR]; exact Nat.le_of_ble_eq_true rfl) (Nat.zero_le _) (Nat.zero_le _) dX9_fillDuel_47 ?_
        refine lv_topi (fun v47 e47 => ?_)
        have hv47 : iv v47 (-2147483648) 2147483647 := by rw [e47]; exact iv_min hv37 hv46 (by decide)
        refine lv_istore (lv' := [(5, .int v47), (4, .int v30), (0, .ref a0), (1, .int x1), (2, .int x2), (3, .int j2_L3)]) hx hb dX9_fillDuel_50 hl (by decide) rfl (fun ls hl => ?_)
        refine lv_aload_n hx hb dX9_fillDuel_52 rfl (lv_at hl 2 rfl) ?_
        refine ti_getE (ci := 9) (v := .ref v8) hx hb hts inlX9 hown hK (hm8.call hk15 (pW_not ha0 rfl)) rfl (by decide) (hts _ kw_30) (fun _ h9 => h9) dX9_fillDuel_53 ?_
        refine lv_iload_n hx hb dX9_fillDuel_56 rfl (lv_at hl 3 rfl) ?_
        refine lv_iload hx hb dX9_fillDuel_57 (lv_at hl 1 rfl) ?_
        refine ti_callv (va_runV (As := [.int x1, .int v30]) (rest := []) ⟨hx, hb, hml, hown, hts⟩ (t_X4_spend l hT hv8 (iv_w hx1 (by decide)) (iv_w hv30 (by decide))) (cwV 2 hts (good_V kw_1465 kw_1046 kw_1047 kw_29 kw_1048) rfl rfl rfl (by decide +kernel) ⟨by rw [hR]; decide, by rw [hR]; decide⟩) (ti_preV hK hT hv8 rfl rfl) rfl rfl hl.1 rfl (lv_room (Nat.le_of_ble_eq_true rfl)) dX9_fillDuel_59 ⟨Nat.zero_le _, Nat.zero_le _⟩) hS (pW_sub rfl) (fun H locs hB hS _ hk59 => ?_)
        have hT := hB
        refine lv_aload_n hx hb dX9_fillDuel_62 rfl (lv_at hl 2 rfl) ?_
        refine ti_getE (ci := 9) (v := .ref v8) hx hb hts inlX9 hown hK ((hm8.call hk15 (pW_not ha0 rfl)).call hk59 (pW_not ha0 rfl)) rfl (by decide) (hts _ kw_30) (fun _ h9 => h9) dX9_fillDuel_63 ?_
        refine lv_iload_n hx hb dX9_fillDuel_66 rfl (lv_at hl 4 rfl) ?_
        refine lv_iload hx hb dX9_fillDuel_67 (lv_at hl 0 rfl) ?_
        refine ti_callv (va_runV (As := [.int x2, .int v47]) (rest := []) ⟨hx, hb, hml, hown, hts⟩ (t_X4_spend l hT hv8 (iv_w hx2 (by decide)) (iv_w hv47 (by decide))) (cwV 2 hts (good_V kw_1465 kw_1046 kw_1047 kw_29 kw_1048) rfl rfl rfl (by decide +kernel) ⟨by rw [hR]; decide, by rw [hR]; decide⟩) (ti_preV hK hT hv8 rfl rfl) rfl rfl hl.1 rfl (lv_room (Nat.le_of_ble_eq_true rfl)) dX9_fillDuel_69 ⟨Nat.zero_le _, Nat.zero_le _⟩) hS (pW_sub rfl) (fun H locs hB hS _ hk69 => ?_)
        have hT := hB
        refine lv_aload_n hx hb dX9_fillDuel_72 rfl (lv_at hl 2 rfl) ?_
        refine ti_getE (ci := 9) (v := .ref v8) hx hb hts inlX9 hown hK (((hm8.call hk15 (pW_not ha0 rfl)).call hk59 (pW_not ha0 rfl)).call hk69 (pW_not ha0 rfl)) rfl (by decide) (hts _ kw_30) (fun _ h9 => h9) dX9_fillDuel_73 ?_
        refine lv_aload_n hx hb dX9_fillDuel_76 rfl (lv_at hl 2 rfl) ?_
        refine ti_getE (ci := 9) (v := .ref v12) hx hb hts inlX9 hown hK (((hm12.call hk15 (pW_not ha0 rfl)).call hk59 (pW_not ha0 rfl)).call hk69 (pW_not ha0 rfl)) rfl (by decide) (hts _ kw_20) (fun _ h9 => h9) dX9_fillDuel_77 ?_
        refine ti_getr hx hb hts inlX7 hown hK hT hv12 rfl rfl rfl 6 (by decide) (hts _ kw_575) (fun _ h9 => h9) rfl dX9_fillDuel_80 (fun v80 hv80 hm80 => ?_)
        refine ti_callv (va_runV (As := [.ref v80]) (rest := []) ⟨hx, hb, hml, hown, hts⟩ (t_X4_strike l hT hv8 hv80) (cwV 1 hts (good_V kw_1466 kw_669 kw_670 kw_29 kw_671) rfl rfl rfl (by decide +kernel) ⟨by rw [hR]; decide, by rw [hR]; decide⟩) (ti_preV hK hT hv8 rfl rfl) rfl rfl hl.1 rfl (lv_room (Nat.le_of_ble_eq_true rfl)) dX9_fillDuel_83 ⟨Nat.zero_le _, Nat.zero_le _⟩) hS (pW_sub rfl) (fun H locs hB hS _ hk83 => ?_)
        have hT := hB
        refine lv_aload_n hx hb dX9_fillDuel_86 rfl (lv_at hl 2 rfl) ?_
        refine ti_getr hx hb hts inlX9 hown hK hT ha0 rfl rfl rfl 9 (by decide) (hts _ kw_40) (fun _ h9 => h9) rfl dX9_fillDuel_87 (fun v87 hv87 hm87 => ?_)
        refine lv_iload_n hx hb dX9_fillDuel_90 rfl (lv_at hl 5 rfl) ?_
        refine lv_iconst (v := 2) hx hb dX9_fillDuel_91 (by decide) ?_
        refine lv_imul hx hb dX9_fillDuel_92 ?_
        refine lv_topi (fun v92 e92 => ?_)
        have hv92 : iv v92 0 6 := by rw [e92]; exact iv_mul hj2_L3_4l (iv_c (x := (2 : Int32)) (k := 2) (by decide)) (by decide)
        have kl2 : (2 : Int32).toInt = 2 := by decide
        have s92 : v92.toInt = j2_L3.toInt * (2 : Int32).toInt := by rw [e92]; exact iv_mulE hj2_L3_4l (iv_c (x := (2 : Int32)) (k := 2) (by decide)) (by decide)
        have s92 : v92.toInt = 2 * j2_L3.toInt := by rw [s92]; simp only [show (2 : Int32).toInt = 2 from by decide]; try omega
        refine lv_aload_n hx hb dX9_fillDuel_93 rfl (lv_at hl 2 rfl) ?_
        refine lv_iload_n hx hb dX9_fillDuel_94 rfl (lv_at hl 3 rfl) ?_
        refine lv_iload hx hb dX9_fillDuel_95 (lv_at hl 1 rfl) ?_
        refine ti_calli (va_runV (As := [.int x1, .int v30]) (rest := [.int v92, .ref v87]) ⟨hx, hb, hml, hown, hts⟩ (t_X9_heldWorth l hT ha0 (iv_w hx1 (by decide)) (iv_w hv30 (by decide))) (cwV 2 hts (good_V kw_1467 kw_1468 kw_1469 kw_2 kw_1470) rfl rfl rfl (by decide +kernel) ⟨by rw [hR]; decide, by rw [hR]; decide⟩) (ti_preV hK hT ha0 rfl rfl) rfl rfl hl.1 rfl (lv_room (Nat.le_of_ble_eq_true rfl)) dX9_fillDuel_97 ⟨Nat.zero_le _, Nat.zero_le _⟩) hS (pW_sub rfl) (fun v97 H1 locs hB hS _ hk97 => ?_)
        have hH := hB
        rw [hH] at hS ⊢
        refine ti_iast hx hb (aT0 hK) hT hS hv87 rfl rfl hv92 (by decide) (fun _ _ _ => ⟨_, _, rfl, by decide, by decide⟩) (iv_top v97) (fun _ _ => trivial) dX9_fillDuel_100 (fun H locs hT hS oq100 he100 hk100 => ?_)
        refine lv_aload_n hx hb dX9_fillDuel_101 rfl (lv_at hl 2 rfl) ?_
        refine ti_getE (ci := 9) (v := .ref v87) hx hb hts inlX9 hown hK (hm87.kept (oq100 _ (ne_r ha0 hv87 rfl))) rfl (by decide) (hts _ kw_40) (fun _ h9 => h9) dX9_fillDuel_102 ?_
        refine lv_iload_n hx hb dX9_fillDuel_105 rfl (lv_at hl 5 rfl) ?_
        refine lv_iconst (v := 2) hx hb dX9_fillDuel_106 (by decide) ?_
        refine lv_imul hx hb dX9_fillDuel_107 ?_
        refine lv_topi (fun v107 e107 => ?_)
        have hv107 : iv v107 0 6 := by rw [e107]; exact iv_mul hj2_L3_4l (iv_c (x := (2 : Int32)) (k := 2) (by decide)) (by decide)
        have s107 : v107.toInt = j2_L3.toInt * (2 : Int32).toInt := by rw [e107]; exact iv_mulE hj2_L3_4l (iv_c (x := (2 : Int32)) (k := 2) (by decide)) (by decide)
        have s107 : v107.toInt = 2 * j2_L3.toInt := by rw [s107]; simp only [show (2 : Int32).toInt = 2 from by decide]; try omega
        refine lv_iconst (v := 1) hx hb dX9_fillDuel_108 (by decide) ?_
        refine lv_iadd hx hb dX9_fillDuel_109 ?_
        refine lv_topi (fun v109 e109 => ?_)
        have hv109 : iv v109 1 7 := by rw [e109]; exact iv_w (iv_add hv107 (iv_c (x := (1 : Int32)) (k := 1) (by decide)) (by decide)) (by decide)
        have s109 : v109.toInt = v107.toInt + 1 := by rw [e109, iv_addE hv107 (iv_c (x := (1 : Int32)) (k := 1) (by decide)) (by decide)]; rfl
        have kl1 : (1 : Int32).toInt = 1 := by decide
        refine lv_aload_n hx hb dX9_fillDuel_110 rfl (lv_at hl 2 rfl) ?_
        refine lv_iload_n hx hb dX9_fillDuel_111 rfl (lv_at hl 4 rfl) ?_
        refine lv_iload hx hb dX9_fillDuel_112 (lv_at hl 0 rfl) ?_
        refine ti_calli (va_runV (As := [.int x2, .int v47]) (rest := [.int v109, .ref v87]) ⟨hx, hb, hml, hown, hts⟩ (t_X9_heldWorth l hT ha0 (iv_w hx2 (by decide)) (iv_w hv47 (by decide))) (cwV 2 hts (good_V kw_1467 kw_1468 kw_1469 kw_2 kw_1470) rfl rfl rfl (by decide +kernel) ⟨by rw [hR]; decide, by rw [hR]; decide⟩) (ti_preV hK hT ha0 rfl rfl) rfl rfl hl.1 rfl (lv_room (Nat.le_of_ble_eq_true rfl)) dX9_fillDuel_114 ⟨Nat.zero_le _, Nat.zero_le _⟩) hS (pW_sub rfl) (fun v114 H1 locs hB hS _ hk114 => ?_)
        have hH := hB
        rw [hH] at hS ⊢
        refine ti_iast hx hb (aT0 hK) hT hS hv87 rfl rfl hv109 (by decide) (fun _ _ _ => ⟨_, _, rfl, by decide, by decide⟩) (iv_top v114) (fun _ _ => trivial) dX9_fillDuel_117 (fun H locs hT hS oq117 he117 hk117 => ?_)
        obtain ⟨v118, e118⟩ : ∃ y : Int32, y = j2_L3 + 1 := ⟨_, rfl⟩
        have hv118 : iv v118 1 4 := by rw [e118]; exact iv_w (iv_add hj2_L3_4l (iv_c (x := (1 : Int32)) (k := 1) (by decide)) (by decide)) (by decide)
        have s118 : v118.toInt = j2_L3.toInt + 1 := by rw [e118, iv_addE hj2_L3_4l (iv_c (x := (1 : Int32)) (k := 1) (by decide)) (by decide)]; rfl
        refine lv_iinc (v := v118) (lv' := [(3, .int v118), (5, .int v47), (4, .int v30), (0, .ref a0), (1, .int x1), (2, .int x2)]) hx hb dX9_fillDuel_118 hl (k := 5) rfl (by rw [e118]; rfl) (by decide) rfl (fun ls hl => ?_)
        refine lv_goto (tgt := 2) hx hb dX9_fillDuel_121 (by decide) ?_
        exact ih2 v118 _ _ _ (ms_up hms2 (by have := s118; omega) (iv_w (c := 1) (d := 4) hv118 (by decide)).2) (iv_w hv118 (by decide)) hT hS (lv_sub hl [3, 4, 5, 0] rfl)
  refine lv_istore_n (lv' := [(3, .int (0 : Int32)), (0, .ref a0), (1, .int x1), (2, .int x2)]) hx hb dX9_fillDuel_1 rfl hl (by decide) rfl (fun ls hl => ?_)
  exact J2 _ (0 : Int32) _ _ _ (Nat.lt_succ_self _) (iv_w (iv_c (x := (0 : Int32)) (k := 0) (by decide)) (by decide)) hT hS (lv_sub hl [1, 2, 3, 0] rfl)
set_option maxHeartbeats 4000000 in
set_option maxRecDepth 100000 in
theorem t_X9_duel (l : Launch) {D : va_G} {c0 : Nat → ClassId} {Y : Nat → Option Nat} {ν : Nat → Nat} {H : Heap} (hT : TI D vwCl (tysOf c0) (RTg ν) Y H) {a0 : Nat} (ha0 : Y a0 = some 9) {x1 : Int32} (hx1 : iv x1 (-2147483648) 2147483647) {x2 : Int32} (hx2 : iv x2 (-2147483648) 2147483647) : Met l yX9_duel (wz yX9_duel cX9_duel 7 (some .int)) { frames := 3, cells := 0, slots := 0, locals := 107 } (TP D vwCl (tysOf c0) H [.ref a0, .int x1, .int x2]) (TQi (fun x H' => TI D vwCl (tysOf c0) (RTg ν) Y H') Y [4, 29]) 0 0 (pW Y [4, 29]) := by
  refine Met.ofW (cc := cX9_duel) (maxL := 7) (ret := (some .int)) (by decide) rfl ?_
  intro p e s m args below meth c s₁ B hml hv
  obtain ⟨rfl, rfl, hK⟩ := hv
  have hx := B.exec
  have hb := B.bytes
  have hr := B.returns
  have hts : ∀ w ∈ wq, w.before _ s = true := fun w h => atoms_spec (ws := wz yX9_duel cX9_duel 7 (some .int)) B.pre w (List.mem_cons_of_mem _ h)
  have hown : s.vm.findClass RX9 = some m.cls := findClass_of_methodNamed B.named
  have hlocks := B.notSynchronized
  obtain ⟨R, hR⟩ : ∃ R : Room, R = ({ frames := 3, cells := 0, slots := 0, locals := 107 } : Room) := ⟨_, rfl⟩
  rw [show (headSpec (wz yX9_duel cX9_duel 7 (some .int)) { frames := 3, cells := 0, slots := 0, locals := 107 }).room = R from hR.symm]
  refine ti_mi hx hb hr hlocks (fun Q ret => ?_)
  have hl := lv_entry [.ref a0, .int x1, .int x2] (n := 7) (Nat.le_of_ble_eq_true rfl)
  rw [lg_entry_eq]
  generalize (lg_sl [.ref a0, .int x1, .int x2] ++ List.replicate (7 - (lg_sl [.ref a0, .int x1, .int x2]).length) Slot.unset).toArray = ls at hl ⊢
  have hl : lv_has ls 7 [(0, .ref a0), (1, .int x1), (2, .int x2)] := hl
  refine ti_gen (P := fun H => TI D vwCl (tysOf c0) (RTg ν) Y H) (Y := Y) (ws := [4, 29]) hT (fun H locs hT hS => ?_)
  refine lv_aload_n hx hb dX9_duel_0 rfl (lv_at hl 0 rfl) ?_
  refine lv_iload_n hx hb dX9_duel_1 rfl (lv_at hl 1 rfl) ?_
  refine lv_iload_n hx hb dX9_duel_2 rfl (lv_at hl 2 rfl) ?_
  refine ti_calli (va_runV (As := [.int x1, .int x2]) (rest := []) ⟨hx, hb, hml, hown, hts⟩ (t_X9_arePair l hT ha0 (iv_w hx1 (by decide)) (iv_w hx2 (by decide))) (cwV 2 hts (good_V kw_529 kw_530 kw_531 kw_2 kw_532) rfl rfl rfl (by decide +kernel) ⟨by rw [hR]; decide, by rw [hR]; decide⟩) (ti_preV hK hT ha0 rfl rfl) rfl rfl hl.1 rfl (lv_room (Nat.le_of_ble_eq_true rfl)) dX9_duel_3 ⟨Nat.zero_le _, Nat.zero_le _⟩) hS (pW_sub rfl) (fun v3 H1 locs hB hS _ hk3 => ?_)
  obtain ⟨hH, hv3, hp3⟩ := hB
  rw [hH] at hS ⊢
  refine lv_if_ne (tgt := 12) hx hb dX9_duel_6 (by decide) (fun c6 => ?_) (fun c6 => ?_)
  · skip
    have kl0 : (0 : Int32).toInt = 0 := by decide
    have f6 := i_ne c6
    have hv3_6l : iv v3 1 1 := iv_nel hv3 (iv_c (x := (0 : Int32)) (k := 0) (by decide)) c6 (by decide)
    have hx1_6p : iv x1 0 7 := by have b0a := (hx1).1; have b0b := (hx1).2; exact ⟨by omega, by omega⟩
    have hx2_6p : iv x2 0 7 := by have b0a := (hx2).1; have b0b := (hx2).2; exact ⟨by omega, by omega⟩
    refine lv_aload_n hx hb dX9_duel_12 rfl (lv_at hl 0 rfl) ?_
    refine lv_iload_n hx hb dX9_duel_13 rfl (lv_at hl 1 rfl) ?_
    refine lv_iload_n hx hb dX9_duel_14 rfl (lv_at hl 2 rfl) ?_
    refine ti_callv (va_runV (As := [.int x1, .int x2]) (rest := []) ⟨hx, hb, hml, hown, hts⟩ (t_X9_fillDuel l hT ha0 (iv_w hx1_6p (by decide)) (iv_w hx2_6p (by decide))) (cwV 2 hts (good_V kw_1460 kw_1461 kw_1462 kw_2 kw_1463) rfl rfl rfl (by decide +kernel) ⟨by rw [hR]; decide, by rw [hR]; decide⟩) (ti_preV hK hT ha0 rfl rfl) rfl rfl hl.1 rfl (lv_room (Nat.le_of_ble_eq_true rfl)) dX9_duel_15 ⟨Nat.zero_le _, Nat.zero_le _⟩) hS (pW_sub rfl) (fun H locs hB hS _ hk15 => ?_)
    have hT := hB
    refine lv_iconst (v := 0) hx hb dX9_duel_18 (by decide) ?_
    refine lv_istore_n (lv' := [(3, .int (0 : Int32)), (0, .ref a0), (1, .int x1), (2, .int x2)]) hx hb dX9_duel_19 rfl hl (by decide) rfl (fun ls hl => ?_)
    refine lv_iconst (v := 0) hx hb dX9_duel_20 (by decide) ?_
    have J23 : ∀ (n : Nat) (j23_L3 : Int32) (j23_L4 : Int32) (H : Heap) (locs : List Loc) (ls : Array Slot), (4 - j23_L4.toInt).toNat < n → iv j23_L3 (-2147483648) 2147483647 → iv j23_L4 0 4 → TI D vwCl (tysOf c0) (RTg ν) Y H → va_S (pW Y [4, 29]) s.heap H locs → lv_has ls 7 [(0, .ref a0), (1, .int x1), (2, .int x2), (3, .int j23_L3), (4, .int j23_L4)] → W p l e R s m ([.ref a0, .int x1, .int x2] : List Value).toArray below meth c H locs 0 0 Q (F0 m 23 ls []) := by
      intro n
      induction n with
      | zero => intro j23_L3 j23_L4 H locs ls hms; exact absurd hms (Nat.not_lt_zero _)
      | succ n ih23 =>
        intro j23_L3 j23_L4 H locs ls hms23 hj23_L3 hj23_L4 hT hS hl
        refine lv_iload hx hb dX9_duel_23 (lv_at hl 4 rfl) ?_
        refine lv_iconst (v := 4) hx hb dX9_duel_25 (by decide) ?_
        refine lv_icmp_ge (tgt := 116) hx hb dX9_duel_26 (by decide) (fun c26 => ?_) (fun c26 => ?_)
        · skip
          have kl4 : (4 : Int32).toInt = 4 := by decide
          have f26 := i_le c26
          have hj23_L4_26r : iv j23_L4 4 4 := iv_ler (iv_c (x := (4 : Int32)) (k := 4) (by decide)) hj23_L4 c26 (by decide)
          refine lv_iload_n hx hb dX9_duel_116 rfl (lv_at hl 3 rfl) ?_
          exact ret _ _ _ _ _ dX9_duel_117 (hT) hS
        · skip
          have kl4 : (4 : Int32).toInt = 4 := by decide
          have f26 := i_nle c26
          have hj23_L4_26l : iv j23_L4 0 3 := iv_ltl hj23_L4 (iv_c (x := (4 : Int32)) (k := 4) (by decide)) (Int32.not_le.mp c26) (by decide)
          refine lv_aload_n hx hb dX9_duel_29 rfl (lv_at hl 0 rfl) ?_
          refine ti_getr hx hb hts inlX9 hown hK hT ha0 rfl rfl rfl 9 (by decide) (hts _ kw_40) (fun _ h9 => h9) rfl dX9_duel_30 (fun v30 hv30 hm30 => ?_)
          refine lv_iload hx hb dX9_duel_33 (lv_at hl 4 rfl) ?_
          refine lv_iconst (v := 2) hx hb dX9_duel_35 (by decide) ?_
          refine lv_imul hx hb dX9_duel_36 ?_
          refine lv_topi (fun v36 e36 => ?_)
          have hv36 : iv v36 0 6 := by rw [e36]; exact iv_mul hj23_L4_26l (iv_c (x := (2 : Int32)) (k := 2) (by decide)) (by decide)
          have kl2 : (2 : Int32).toInt = 2 := by decide
          have s36 : v36.toInt = j23_L4.toInt * (2 : Int32).toInt := by rw [e36]; exact iv_mulE hj23_L4_26l (iv_c (x := (2 : Int32)) (k := 2) (by decide)) (by decide)
          have s36 : v36.toInt = 2 * j23_L4.toInt := by rw [s36]; simp only [show (2 : Int32).toInt = 2 from by decide]; try omega
          refine ti_iald (lo := (-2147483648)) (hi := 2147483647) hx hb (aT0 hK) hT hv30 rfl hv36 (by decide) (fun _ _ _ => ⟨_, _, rfl, by decide, by decide⟩) dX9_duel_37 (fun v37 hv37 hm37 => ?_)
          refine lv_aload_n hx hb dX9_duel_38 rfl (lv_at hl 0 rfl) ?_
          refine ti_getE (ci := 9) (v := .ref v30) hx hb hts inlX9 hown hK hm30 rfl (by decide) (hts _ kw_40) (fun _ h9 => h9) dX9_duel_39 ?_
          refine lv_iload hx hb dX9_duel_42 (lv_at hl 4 rfl) ?_
          refine lv_iconst (v := 1) hx hb dX9_duel_44 (by decide) ?_
          refine lv_ixor hx hb dX9_duel_45 ?_
          refine lv_topi (fun v45 e45 => ?_)
          have hv45 : iv v45 0 3 := by rw [e45]; exact iv_w (iv_xor 2 (iv_w (c := 0) (d := 3) hj23_L4_26l (by decide)) (iv_w (c := 0) (d := 1) (iv_c (x := (1 : Int32)) (k := 1) (by decide)) (by decide)) (by decide)) (by decide)
          refine lv_iconst (v := 2) hx hb dX9_duel_46 (by decide) ?_
          refine lv_imul hx hb dX9_duel_47 ?_
          refine lv_topi (fun v47 e47 => ?_)
          have hv47 : iv v47 0 6 := by rw [e47]; exact iv_mul hv45 (iv_c (x := (2 : Int32)) (k := 2) (by decide)) (by decide)
          have s47 : v47.toInt = v45.toInt * (2 : Int32).toInt := by rw [e47]; exact iv_mulE hv45 (iv_c (x := (2 : Int32)) (k := 2) (by decide)) (by decide)
          have s47 : v47.toInt = 2 * v45.toInt := by rw [s47]; simp only [show (2 : Int32).toInt = 2 from by decide]; try omega
          refine ti_iald (lo := (-2147483648)) (hi := 2147483647) hx hb (aT0 hK) hT hv30 rfl hv47 (by decide) (fun _ _ _ => ⟨_, _, rfl, by decide, by decide⟩) dX9_duel_48 (fun v48 hv48 hm48 => ?_)
          have J57 : ∀ (j57_S0 : Int32) (H : Heap) (locs : List Loc) (ls : Array Slot), iv j57_S0 0 1 → TI D vwCl (tysOf c0) (RTg ν) Y H → va_S (pW Y [4, 29]) s.heap H locs → lv_has ls 7 [(0, .ref a0), (1, .int x1), (2, .int x2), (3, .int j23_L3), (4, .int j23_L4)] → W p l e R s m ([.ref a0, .int x1, .int x2] : List Value).toArray below meth c H locs 0 0 Q (F0 m 57 ls [.int j57_S0]) := by
            intro j57_S0 H locs ls hj57_S0 hT hS hl
            refine lv_istore (lv' := [(5, .int j57_S0), (0, .ref a0), (1, .int x1), (2, .int x2), (3, .int j23_L3), (4, .int j23_L4)]) hx hb dX9_duel_57 hl (by decide) rfl (fun ls hl => ?_)
            refine lv_aload_n hx hb dX9_duel_59 rfl (lv_at hl 1 rfl) ?_
            refine ti_getr hx hb hts inlX9 hown hK hT ha0 rfl rfl rfl 9 (by decide) (hts _ kw_40) (fun _ h9 => h9) rfl dX9_duel_60 (fun v60 hv60 hm60 => ?_)
            refine lv_iload hx hb dX9_duel_63 (lv_at hl 5 rfl) ?_
            refine lv_iconst (v := 2) hx hb dX9_duel_65 (by decide) ?_
            refine lv_imul hx hb dX9_duel_66 ?_
            refine lv_topi (fun v66 e66 => ?_)
            have hv66 : iv v66 0 6 := by rw [e66]; exact iv_mul hj23_L4_26l (iv_c (x := (2 : Int32)) (k := 2) (by decide)) (by decide)
            have s66 : v66.toInt = j23_L4.toInt * (2 : Int32).toInt := by rw [e66]; exact iv_mulE hj23_L4_26l (iv_c (x := (2 : Int32)) (k := 2) (by decide)) (by decide)
            have s66 : v66.toInt = 2 * j23_L4.toInt := by rw [s66]; simp only [show (2 : Int32).toInt = 2 from by decide]; try omega
            refine lv_iconst (v := 1) hx hb dX9_duel_67 (by decide) ?_
            refine lv_iadd hx hb dX9_duel_68 ?_
            refine lv_topi (fun v68 e68 => ?_)
            have hv68 : iv v68 1 7 := by rw [e68]; exact iv_w (iv_add hv66 (iv_c (x := (1 : Int32)) (k := 1) (by decide)) (by decide)) (by decide)
            have s68 : v68.toInt = v66.toInt + 1 := by rw [e68, iv_addE hv66 (iv_c (x := (1 : Int32)) (k := 1) (by decide)) (by decide)]; rfl
            have kl1 : (1 : Int32).toInt = 1 := by decide
            refine ti_iald (lo := (-2147483648)) (hi := 2147483647) hx hb (aT0 hK) hT hv60 rfl hv68 (by decide) (fun _ _ _ => ⟨_, _, rfl, by decide, by decide⟩) dX9_duel_69 (fun v69 hv69 hm69 => ?_)
            refine lv_aload_n hx hb dX9_duel_70 rfl (lv_at hl 1 rfl) ?_
            refine ti_getE (ci := 9) (v := .ref v60) hx hb hts inlX9 hown hK hm60 rfl (by decide) (hts _ kw_40) (fun _ h9 => h9) dX9_duel_71 ?_
            refine lv_iload hx hb dX9_duel_74 (lv_at hl 5 rfl) ?_
            refine lv_iconst (v := 2) hx hb dX9_duel_76 (by decide) ?_
            refine lv_ixor hx hb dX9_duel_77 ?_
            refine lv_topi (fun v77 e77 => ?_)
            have hv77 : iv v77 0 3 := by rw [e77]; exact iv_w (iv_xor 2 (iv_w (c := 0) (d := 3) hj23_L4_26l (by decide)) (iv_w (c := 0) (d := 2) (iv_c (x := (2 : Int32)) (k := 2) (by decide)) (by decide)) (by decide)) (by decide)
            refine lv_iconst (v := 2) hx hb dX9_duel_78 (by decide) ?_
            refine lv_imul hx hb dX9_duel_79 ?_
            refine lv_topi (fun v79 e79 => ?_)
            have hv79 : iv v79 0 6 := by rw [e79]; exact iv_mul hv77 (iv_c (x := (2 : Int32)) (k := 2) (by decide)) (by decide)
            have s79 : v79.toInt = v77.toInt * (2 : Int32).toInt := by rw [e79]; exact iv_mulE hv77 (iv_c (x := (2 : Int32)) (k := 2) (by decide)) (by decide)
            have s79 : v79.toInt = 2 * v77.toInt := by rw [s79]; simp only [show (2 : Int32).toInt = 2 from by decide]; try omega
            refine lv_iconst (v := 1) hx hb dX9_duel_80 (by decide) ?_
            refine lv_iadd hx hb dX9_duel_81 ?_
            refine lv_topi (fun v81 e81 => ?_)
            have hv81 : iv v81 1 7 := by rw [e81]; exact iv_w (iv_add hv79 (iv_c (x := (1 : Int32)) (k := 1) (by decide)) (by decide)) (by decide)
            have s81 : v81.toInt = v79.toInt + 1 := by rw [e81, iv_addE hv79 (iv_c (x := (1 : Int32)) (k := 1) (by decide)) (by decide)]; rfl
            refine ti_iald (lo := (-2147483648)) (hi := 2147483647) hx hb (aT0 hK) hT hv60 rfl hv81 (by decide) (fun _ _ _ => ⟨_, _, rfl, by decide, by decide⟩) dX9_duel_82 (fun v82 hv82 hm82 => ?_)
            have J91 : ∀ (j91_S0 : Int32) (H : Heap) (locs : List Loc) (ls : Array Slot), iv j91_S0 0 1 → TI D vwCl (tysOf c0) (RTg ν) Y H → va_S (pW Y [4, 29]) s.heap H locs → lv_has ls 7 [(0, .ref a0), (1, .int x1), (2, .int x2), (3, .int j23_L3), (4, .int j23_L4), (5, .int j57_S0)] → W p l e R s m ([.ref a0, .int x1, .int x2] : List Value).toArray below meth c H locs 0 0 Q (F0 m 91 ls [.int j91_S0]) := by
              intro j91_S0 H locs ls hj91_S0 hT hS hl
              refine lv_istore (lv' := [(6, .int j91_S0), (0, .ref a0), (1, .int x1), (2, .int x2), (3, .int j23_L3), (4, .int j23_L4), (5, .int j57_S0)]) hx hb dX9_duel_91 hl (by decide) rfl (fun ls hl => ?_)
              refine lv_iload hx hb dX9_duel_93 (lv_at hl 6 rfl) ?_
              have J110 : ∀ (j110_L3 : Int32) (H : Heap) (locs : List Loc) (ls : Array Slot), iv j110_L3 (-2147483648) 2147483647 → TI D vwCl (tysOf c0) (RTg ν) Y H → va_S (pW Y [4, 29]) s.heap H locs → lv_has ls 7 [(0, .ref a0), (1, .int x1), (2, .int x2), (3, .int j110_L3), (4, .int j23_L4), (5, .int j57_S0), (6, .int j91_S0)] → W p l e R s m ([.ref a0, .int x1, .int x2] : List Value).toArray below meth c H locs 0 0 Q (F0 m 110 ls []) := by
                intro j110_L3 H locs ls hj110_L3 hT hS hl
                obtain ⟨v110, e110⟩ : ∃ y : Int32, y = j23_L4 + 1 := ⟨_, rfl⟩
                have hv110 : iv v110 1 4 := by rw [e110]; exact iv_w (iv_add hj23_L4_26l (iv_c (x := (1 : Int32)) (k := 1) (by decide)) (by decide)) (by decide)
                have s110 : v110.toInt = j23_L4.toInt + 1 := by rw [e110, iv_addE hj23_L4_26l (iv_c (x := (1 : Int32)) (k := 1) (by decide)) (by decide)]; rfl
                refine lv_iinc (v := v110) (lv' := [(4, .int v110), (0, .ref a0), (1, .int x1), (2, .int x2), (3, .int j110_L3), (5, .int j57_S0), (6, .int j91_S0)]) hx hb dX9_duel_110 hl (k := 4) rfl (by rw [e110]; rfl) (by decide) rfl (fun ls hl => ?_)
                refine lv_goto (tgt := 23) hx hb dX9_duel_113 (by decide) ?_
                exact ih23 j110_L3 v110 _ _ _ (ms_up hms23 (by have := s110; omega) (iv_w (c := 1) (d := 4) hv110 (by decide)).2) (iv_w hj110_L3 (by decide)) (iv_w hv110 (by decide)) hT hS (lv_sub hl [1, 2, 3, 4, 0] rfl)
              refine lv_if_eq (tgt := 110) hx hb dX9_duel_95 (by decide) (fun c95 => ?_) (fun c95 => ?_)
              · skip
                have f95 := i_eq c95
                have hj57_S0_95l : iv j57_S0 0 0 := iv_eql hj57_S0 (iv_c (x := (0 : Int32)) (k := 0) (by decide)) c95 (by decide)
                exact J110 j23_L3 _ _ _  (iv_w hj23_L3 (by decide)) hT hS (lv_sub hl [1, 2, 3, 4, 5, 6, 0] rfl)
              · skip
                have f95 := i_ne c95
                have hj57_S0_95l : iv j57_S0 1 1 := iv_nel hj57_S0 (iv_c (x := (0 : Int32)) (k := 0) (by decide)) c95 (by decide)
                refine lv_iload hx hb dX9_duel_98 (lv_at hl 0 rfl) ?_
                refine lv_if_eq (tgt := 110) hx hb dX9_duel_100 (by decide) (fun c100 => ?_) (fun c100 => ?_)
                · skip
                  have f100 := i_eq c100
                  have hj91_S0_100l : iv j91_S0 0 0 := iv_eql hj91_S0 (iv_c (x := (0 : Int32)) (k := 0) (by decide)) c100 (by decide)
                  exact J110 j23_L3 _ _ _  (iv_w hj23_L3 (by decide)) hT hS (lv_sub hl [1, 2, 3, 4, 5, 6, 0] rfl)
                · skip
                  have f100 := i_ne c100
                  have hj91_S0_100l : iv j91_S0 1 1 := iv_nel hj91_S0 (iv_c (x := (0 : Int32)) (k := 0) (by decide)) c100 (by decide)
                  refine lv_iload_n hx hb dX9_duel_103 rfl (lv_at hl 4 rfl) ?_
                  refine lv_iconst (v := 1) hx hb dX9_duel_104 (by decide) ?_
                  refine lv_iload hx hb dX9_duel_105 (lv_at hl 5 rfl) ?_
                  refine lv_ishl hx hb dX9_duel_107 ?_
                  refine lv_topi (fun v107 e107 => ?_)
                  have hv107 : iv v107 (-2147483648) 2147483647 := iv_top _
                  refine lv_ior hx hb dX9_duel_108 ?_
                  refine lv_topi (fun v108 e108 => ?_)
                  have hv108 : iv v108 (-2147483648) 2147483647 := iv_top _
                  refine lv_istore_n (lv' := [(3, .int v108), (6, .int j91_S0), (0, .ref a0), (1, .int x1), (2, .int x2), (4, .int j23_L4), (5, .int j57_S0)]) hx hb dX9_duel_109 rfl hl (by decide) rfl (fun ls hl => ?_)
                  exact J110 v108 _ _ _  (iv_w hv108 (by decide)) hT hS (lv_sub hl [2, 3, 4, 0, 5, 6, 1] rfl)
            refine lv_icmp_lt (tgt := 90) hx hb dX9_duel_83 (by decide) (fun c83 => ?_) (fun c83 => ?_)
            · skip
              have f83 := i_lt c83
              have hv69_83l : iv v69 (-2147483648) 2147483646 := iv_ltl hv69 hv82 c83 (by decide)
              have hv82_83r : iv v82 (-2147483647) 2147483647 := iv_ltr hv69_83l hv82 c83 (by decide)
              refine lv_iconst (v := 0) hx hb dX9_duel_90 (by decide) ?_
              exact J91 (0 : Int32) _ _ _  (iv_w (iv_c (x := (0 : Int32)) (k := 0) (by decide)) (by decide)) hT hS (lv_sub hl [1, 2, 3, 4, 5, 0] rfl)
            · skip
              have f83 := i_nlt c83
              refine lv_iconst (v := 1) hx hb dX9_duel_86 (by decide) ?_
              refine lv_goto (tgt := 91) hx hb dX9_duel_87 (by decide) ?_
              exact J91 (1 : Int32) _ _ _  (iv_w (iv_c (x := (1 : Int32)) (k := 1) (by decide)) (by decide)) hT hS (lv_sub hl [1, 2, 3, 4, 5, 0] rfl)
          refine lv_icmp_lt (tgt := 56) hx hb dX9_duel_49 (by decide) (fun c49 => ?_) (fun c49 => ?_)
          · skip
            have f49 := i_lt c49
            have hv37_49l : iv v37 (-2147483648) 2147483646 := iv_ltl hv37 hv48 c49 (by decide)
            have hv48_49r : iv v48 (-2147483647) 2147483647 := iv_ltr hv37_49l hv48 c49 (by decide)
            refine lv_iconst (v := 0) hx hb dX9_duel_56 (by decide) ?_
            exact J57 (0 : Int32) _ _ _  (iv_w (iv_c (x := (0 : Int32)) (k := 0) (by decide)) (by decide)) hT hS (lv_sub hl [0, 1, 2, 3, 4] rfl)
          · skip
            have f49 := i_nlt c49
            refine lv_iconst (v := 1) hx hb dX9_duel_52 (by decide) ?_
            refine lv_goto (tgt := 57) hx hb dX9_duel_53 (by decide) ?_
            exact J57 (1 : Int32) _ _ _  (iv_w (iv_c (x := (1 : Int32)) (k := 1) (by decide)) (by decide)) hT hS (lv_sub hl [0, 1, 2, 3, 4] rfl)
    refine lv_istore (lv' := [(4, .int (0 : Int32)), (3, .int (0 : Int32)), (0, .ref a0), (1, .int x1), (2, .int x2)]) hx hb dX9_duel_21 hl (by decide) rfl (fun ls hl => ?_)
    exact J23 _ (0 : Int32) (0 : Int32) _ _ _ (Nat.lt_succ_self _) (iv_w (iv_c (x := (0 : Int32)) (k := 0) (by decide)) (by decide)) (iv_w (iv_c (x := (0 : Int32)) (k := 0) (by decide)) (by decide)) hT hS (lv_sub hl [2, 3, 4, 1, 0] rfl)
  · skip
    have kl0 : (0 : Int32).toInt = 0 := by decide
    have f6 := i_eq c6
    have hv3_6l : iv v3 0 0 := iv_eql hv3 (iv_c (x := (0 : Int32)) (k := 0) (by decide)) c6 (by decide)
    refine lv_bipush (v := (-2)) hx hb dX9_duel_9 (by decide) ?_
    exact ret _ _ _ _ _ dX9_duel_11 (hT) hS
set_option maxHeartbeats 4000000 in
set_option maxRecDepth 100000 in
theorem t_X9_mixed (l : Launch) {D : va_G} {c0 : Nat → ClassId} {Y : Nat → Option Nat} {ν : Nat → Nat} {H : Heap} (hT : TI D vwCl (tysOf c0) (RTg ν) Y H) {a0 : Nat} (ha0 : Y a0 = some 9) {x1 : Int32} (hx1 : iv x1 (-2147483648) 2147483647) {x2 : Int32} (hx2 : iv x2 (-2147483648) 2147483647) : Met l yX9_mixed (wz yX9_mixed cX9_mixed 6 (some .int)) { frames := 3, cells := 0, slots := 0, locals := 107 } (TP D vwCl (tysOf c0) H [.ref a0, .int x1, .int x2]) (TQi (fun x H' => TI D vwCl (tysOf c0) (RTg ν) Y H' ∧ iv x (-2) 10000) Y [4, 29]) 0 0 (pW Y [4, 29]) := by
  refine Met.ofW (cc := cX9_mixed) (maxL := 6) (ret := (some .int)) (by decide) rfl ?_
  intro p e s m args below meth c s₁ B hml hv
  obtain ⟨rfl, rfl, hK⟩ := hv
  have hx := B.exec
  have hb := B.bytes
  have hr := B.returns
  have hts : ∀ w ∈ wq, w.before _ s = true := fun w h => atoms_spec (ws := wz yX9_mixed cX9_mixed 6 (some .int)) B.pre w (List.mem_cons_of_mem _ h)
  have hown : s.vm.findClass RX9 = some m.cls := findClass_of_methodNamed B.named
  have hlocks := B.notSynchronized
  obtain ⟨R, hR⟩ : ∃ R : Room, R = ({ frames := 3, cells := 0, slots := 0, locals := 107 } : Room) := ⟨_, rfl⟩
  rw [show (headSpec (wz yX9_mixed cX9_mixed 6 (some .int)) { frames := 3, cells := 0, slots := 0, locals := 107 }).room = R from hR.symm]
  refine ti_mi hx hb hr hlocks (fun Q ret => ?_)
  have hl := lv_entry [.ref a0, .int x1, .int x2] (n := 6) (Nat.le_of_ble_eq_true rfl)
  rw [lg_entry_eq]
  generalize (lg_sl [.ref a0, .int x1, .int x2] ++ List.replicate (6 - (lg_sl [.ref a0, .int x1, .int x2]).length) Slot.unset).toArray = ls at hl ⊢
  have hl : lv_has ls 6 [(0, .ref a0), (1, .int x1), (2, .int x2)] := hl
  refine ti_gen (P := fun H => TI D vwCl (tysOf c0) (RTg ν) Y H) (Y := Y) (ws := [4, 29]) hT (fun H locs hT hS => ?_)
  refine lv_aload_n hx hb dX9_mixed_0 rfl (lv_at hl 0 rfl) ?_
  refine lv_iload_n hx hb dX9_mixed_1 rfl (lv_at hl 1 rfl) ?_
  refine lv_iload_n hx hb dX9_mixed_2 rfl (lv_at hl 2 rfl) ?_
  refine ti_calli (va_runV (As := [.int x1, .int x2]) (rest := []) ⟨hx, hb, hml, hown, hts⟩ (t_X9_arePair l hT ha0 (iv_w hx1 (by decide)) (iv_w hx2 (by decide))) (cwV 2 hts (good_V kw_529 kw_530 kw_531 kw_2 kw_532) rfl rfl rfl (by decide +kernel) ⟨by rw [hR]; decide, by rw [hR]; decide⟩) (ti_preV hK hT ha0 rfl rfl) rfl rfl hl.1 rfl (lv_room (Nat.le_of_ble_eq_true rfl)) dX9_mixed_3 ⟨Nat.zero_le _, Nat.zero_le _⟩) hS (pW_sub rfl) (fun v3 H1 locs hB hS _ hk3 => ?_)
  obtain ⟨hH, hv3, hp3⟩ := hB
  rw [hH] at hS ⊢
  refine lv_if_ne (tgt := 12) hx hb dX9_mixed_6 (by decide) (fun c6 => ?_) (fun c6 => ?_)
  · skip
    have kl0 : (0 : Int32).toInt = 0 := by decide
    have f6 := i_ne c6
    have hv3_6l : iv v3 1 1 := iv_nel hv3 (iv_c (x := (0 : Int32)) (k := 0) (by decide)) c6 (by decide)
    have hx1_6p : iv x1 0 7 := by have b0a := (hx1).1; have b0b := (hx1).2; exact ⟨by omega, by omega⟩
    have hx2_6p : iv x2 0 7 := by have b0a := (hx2).1; have b0b := (hx2).2; exact ⟨by omega, by omega⟩
    refine lv_aload_n hx hb dX9_mixed_12 rfl (lv_at hl 0 rfl) ?_
    refine lv_iload_n hx hb dX9_mixed_13 rfl (lv_at hl 1 rfl) ?_
    refine lv_iload_n hx hb dX9_mixed_14 rfl (lv_at hl 2 rfl) ?_
    refine ti_callv (va_runV (As := [.int x1, .int x2]) (rest := []) ⟨hx, hb, hml, hown, hts⟩ (t_X9_fillDuel l hT ha0 (iv_w hx1_6p (by decide)) (iv_w hx2_6p (by decide))) (cwV 2 hts (good_V kw_1460 kw_1461 kw_1462 kw_2 kw_1463) rfl rfl rfl (by decide +kernel) ⟨by rw [hR]; decide, by rw [hR]; decide⟩) (ti_preV hK hT ha0 rfl rfl) rfl rfl hl.1 rfl (lv_room (Nat.le_of_ble_eq_true rfl)) dX9_mixed_15 ⟨Nat.zero_le _, Nat.zero_le _⟩) hS (pW_sub rfl) (fun H locs hB hS _ hk15 => ?_)
    have hT := hB
    refine lv_aload_n hx hb dX9_mixed_18 rfl (lv_at hl 0 rfl) ?_
    refine ti_getr hx hb hts inlX9 hown hK hT ha0 rfl rfl rfl 9 (by decide) (hts _ kw_40) (fun _ h9 => h9) rfl dX9_mixed_19 (fun v19 hv19 hm19 => ?_)
    refine lv_iconst (v := 5) hx hb dX9_mixed_22 (by decide) ?_
    refine ti_iald (lo := (-2147483648)) (hi := 2147483647) hx hb (aT0 hK) hT hv19 rfl (iv_c (x := (5 : Int32)) (k := 5) (by decide)) (by decide) (fun _ _ _ => ⟨_, _, rfl, by decide, by decide⟩) dX9_mixed_23 (fun v23 hv23 hm23 => ?_)
    refine lv_aload_n hx hb dX9_mixed_24 rfl (lv_at hl 0 rfl) ?_
    refine ti_getE (ci := 9) (v := .ref v19) hx hb hts inlX9 hown hK hm19 rfl (by decide) (hts _ kw_40) (fun _ h9 => h9) dX9_mixed_25 ?_
    refine lv_iconst (v := 1) hx hb dX9_mixed_28 (by decide) ?_
    refine ti_iald (lo := (-2147483648)) (hi := 2147483647) hx hb (aT0 hK) hT hv19 rfl (iv_c (x := (1 : Int32)) (k := 1) (by decide)) (by decide) (fun _ _ _ => ⟨_, _, rfl, by decide, by decide⟩) dX9_mixed_29 (fun v29 hv29 hm29 => ?_)
    refine lv_isub hx hb dX9_mixed_30 ?_
    refine lv_topi (fun v30 e30 => ?_)
    have hv30 : iv v30 (-2147483648) 2147483647 := iv_top _
    refine lv_istore_n (lv' := [(3, .int v30), (0, .ref a0), (1, .int x1), (2, .int x2)]) hx hb dX9_mixed_31 rfl hl (by decide) rfl (fun ls hl => ?_)
    refine lv_iload_n hx hb dX9_mixed_32 rfl (lv_at hl 0 rfl) ?_
    refine lv_aload_n hx hb dX9_mixed_33 rfl (lv_at hl 1 rfl) ?_
    refine ti_getE (ci := 9) (v := .ref v19) hx hb hts inlX9 hown hK hm19 rfl (by decide) (hts _ kw_40) (fun _ h9 => h9) dX9_mixed_34 ?_
    refine lv_bipush (v := 7) hx hb dX9_mixed_37 (by decide) ?_
    refine ti_iald (lo := (-2147483648)) (hi := 2147483647) hx hb (aT0 hK) hT hv19 rfl (iv_c (x := (7 : Int32)) (k := 7) (by decide)) (by decide) (fun _ _ _ => ⟨_, _, rfl, by decide, by decide⟩) dX9_mixed_39 (fun v39 hv39 hm39 => ?_)
    refine lv_aload_n hx hb dX9_mixed_40 rfl (lv_at hl 1 rfl) ?_
    refine ti_getE (ci := 9) (v := .ref v19) hx hb hts inlX9 hown hK hm19 rfl (by decide) (hts _ kw_40) (fun _ h9 => h9) dX9_mixed_41 ?_
    refine lv_iconst (v := 3) hx hb dX9_mixed_44 (by decide) ?_
    refine ti_iald (lo := (-2147483648)) (hi := 2147483647) hx hb (aT0 hK) hT hv19 rfl (iv_c (x := (3 : Int32)) (k := 3) (by decide)) (by decide) (fun _ _ _ => ⟨_, _, rfl, by decide, by decide⟩) dX9_mixed_45 (fun v45 hv45 hm45 => ?_)
    refine lv_isub hx hb dX9_mixed_46 ?_
    refine lv_topi (fun v46 e46 => ?_)
    have hv46 : iv v46 (-2147483648) 2147483647 := iv_top _
    refine lv_isub hx hb dX9_mixed_47 ?_
    refine lv_topi (fun v47 e47 => ?_)
    have hv47 : iv v47 (-2147483648) 2147483647 := iv_top _
    refine lv_istore (lv' := [(4, .int v47), (3, .int v30), (0, .ref a0), (1, .int x1), (2, .int x2)]) hx hb dX9_mixed_48 hl (by decide) rfl (fun ls hl => ?_)
    refine lv_iload hx hb dX9_mixed_50 (lv_at hl 0 rfl) ?_
    refine lv_if_ne (tgt := 57) hx hb dX9_mixed_52 (by decide) (fun c52 => ?_) (fun c52 => ?_)
    · skip
      have f52 := i_ne c52
      refine lv_sipush (v := 10000) hx hb dX9_mixed_57 (by decide) ?_
      refine lv_iload_n hx hb dX9_mixed_60 rfl (lv_at hl 1 rfl) ?_
      refine lv_imul hx hb dX9_mixed_61 ?_
      refine lv_topi (fun v61 e61 => ?_)
      have hv61 : iv v61 (-2147483648) 2147483647 := iv_top _
      refine lv_iload hx hb dX9_mixed_62 (lv_at hl 0 rfl) ?_
      refine lv_idiv hx hb dX9_mixed_64 c52 ?_
      refine lv_topi (fun v64 e64 => ?_)
      have hv64 : iv v64 (-2147483648) 2147483647 := iv_top _
      refine lv_istore (lv' := [(5, .int v64), (4, .int v47), (3, .int v30), (0, .ref a0), (1, .int x1), (2, .int x2)]) hx hb dX9_mixed_65 hl (by decide) rfl (fun ls hl => ?_)
      refine lv_iload hx hb dX9_mixed_67 (lv_at hl 0 rfl) ?_
      have J80 : ∀  (H : Heap) (locs : List Loc) (ls : Array Slot), TI D vwCl (tysOf c0) (RTg ν) Y H → va_S (pW Y [4, 29]) s.heap H locs → lv_has ls 6 [(0, .ref a0), (1, .int x1), (2, .int x2), (3, .int v30), (4, .int v47), (5, .int v64)] → W p l e R s m ([.ref a0, .int x1, .int x2] : List Value).toArray below meth c H locs 0 0 Q (F0 m 80 ls []) := by
        intro  H locs ls  hT hS hl
        refine lv_iconst (v := (-1)) hx hb dX9_mixed_80 (by decide) ?_
        refine lv_goto (tgt := 86) hx hb dX9_mixed_81 (by decide) ?_
        exact ret _ _ _ _ _ dX9_mixed_86 (⟨hT, iv_w (iv_c (x := (-1 : Int32)) (k := (-1)) (by decide)) (by decide)⟩) hS
      refine lv_if_lt (tgt := 80) hx hb dX9_mixed_69 (by decide) (fun c69 => ?_) (fun c69 => ?_)
      · skip
        have f69 := i_lt c69
        have hv64_69l : iv v64 (-2147483648) (-1) := iv_ltl hv64 (iv_c (x := (0 : Int32)) (k := 0) (by decide)) c69 (by decide)
        exact J80  _ _ _   hT hS (lv_sub hl [3, 4, 5, 2, 1, 0] rfl)
      · skip
        have f69 := i_nlt c69
        have hv64_69r : iv v64 0 2147483647 := iv_ler (iv_c (x := (0 : Int32)) (k := 0) (by decide)) hv64 (Int32.not_lt.mp c69) (by decide)
        refine lv_iload hx hb dX9_mixed_72 (lv_at hl 0 rfl) ?_
        refine lv_sipush (v := 10000) hx hb dX9_mixed_74 (by decide) ?_
        refine lv_icmp_le (tgt := 84) hx hb dX9_mixed_77 (by decide) (fun c77 => ?_) (fun c77 => ?_)
        · skip
          have kl10000 : (10000 : Int32).toInt = 10000 := by decide
          have f77 := i_le c77
          have hv64_77l : iv v64 0 10000 := iv_lel hv64_69r (iv_c (x := (10000 : Int32)) (k := 10000) (by decide)) c77 (by decide)
          refine lv_iload hx hb dX9_mixed_84 (lv_at hl 0 rfl) ?_
          exact ret _ _ _ _ _ dX9_mixed_86 (⟨hT, iv_w hv64_77l (by decide)⟩) hS
        · skip
          have kl10000 : (10000 : Int32).toInt = 10000 := by decide
          have f77 := i_nle c77
          have hv64_77r : iv v64 10001 2147483647 := iv_ltr (iv_c (x := (10000 : Int32)) (k := 10000) (by decide)) hv64_69r (Int32.not_le.mp c77) (by decide)
          exact J80  _ _ _   hT hS (lv_sub hl [3, 4, 5, 2, 1, 0] rfl)
    · skip
      have f52 := i_eq c52
      have hv47_52l : iv v47 0 0 := iv_eql hv47 (iv_c (x := (0 : Int32)) (k := 0) (by decide)) c52 (by decide)
      refine lv_iconst (v := (-1)) hx hb dX9_mixed_55 (by decide) ?_
      exact ret _ _ _ _ _ dX9_mixed_56 (⟨hT, iv_w (iv_c (x := (-1 : Int32)) (k := (-1)) (by decide)) (by decide)⟩) hS
  · skip
    have kl0 : (0 : Int32).toInt = 0 := by decide
    have f6 := i_eq c6
    have hv3_6l : iv v3 0 0 := iv_eql hv3 (iv_c (x := (0 : Int32)) (k := 0) (by decide)) c6 (by decide)
    refine lv_bipush (v := (-2)) hx hb dX9_mixed_9 (by decide) ?_
    exact ret _ _ _ _ _ dX9_mixed_11 (⟨hT, iv_w (iv_c (x := (-2 : Int32)) (k := (-2)) (by decide)) (by decide)⟩) hS
