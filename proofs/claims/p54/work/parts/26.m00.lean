set_option maxHeartbeats 4000000 in
set_option maxRecDepth 100000 in
theorem t_X9_paste (l : Launch) {D : va_G} {c0 : Nat → ClassId} {Y : Nat → Option Nat} {ν : Nat → Nat} {H : Heap} (hT : TI D vwCl (tysOf c0) (RTg ν) Y H) {a0 : Nat} (ha0 : Y a0 = some 9) {x1 : Int32} (hx1 : iv x1 (-2147483648) 2147483647) {x2 : Int32} (hx2 : iv x2 (-2147483648) 2147483647) {x3 : Int32} (hx3 : iv x3 (-2147483648) 2147483647) {x4 : Int32} (hx4 : iv x4 (-2147483648) 2147483647) {x5 : Int32} (hx5 : iv x5 (-2147483648) 2147483647) : Met l yX9_paste (wz yX9_paste cX9_paste 8 (some .int)) { frames := 1, cells := 0, slots := 0, locals := 60 } (TP D vwCl (tysOf c0) H [.ref a0, .int x1, .int x2, .int x3, .int x4, .int x5]) (TQi (fun x H' => TI D vwCl (tysOf c0) (RTg ν) Y H' ∧ iv x (-8) 0) Y [27]) 0 0 (pW Y [27]) := by
  refine Met.ofW (cc := cX9_paste) (maxL := 8) (ret := (some .int)) (by decide) rfl ?_
  intro p e s m args below meth c s₁ B hml hv
  obtain ⟨rfl, rfl, hK⟩ := hv
  have hx := B.exec
  have hb := B.bytes
  have hr := B.returns
  have hts : ∀ w ∈ wq, w.before _ s = true := fun w h => atoms_spec (ws := wz yX9_paste cX9_paste 8 (some .int)) B.pre w (List.mem_cons_of_mem _ h)
  have hown : s.vm.findClass RX9 = some m.cls := findClass_of_methodNamed B.named
  have hlocks := B.notSynchronized
  obtain ⟨R, hR⟩ : ∃ R : Room, R = ({ frames := 1, cells := 0, slots := 0, locals := 60 } : Room) := ⟨_, rfl⟩
  rw [show (headSpec (wz yX9_paste cX9_paste 8 (some .int)) { frames := 1, cells := 0, slots := 0, locals := 60 }).room = R from hR.symm]
  refine ti_mi hx hb hr hlocks (fun Q ret => ?_)
  have hl := lv_entry [.ref a0, .int x1, .int x2, .int x3, .int x4, .int x5] (n := 8) (Nat.le_of_ble_eq_true rfl)
  rw [lg_entry_eq]
  generalize (lg_sl [.ref a0, .int x1, .int x2, .int x3, .int x4, .int x5] ++ List.replicate (8 - (lg_sl [.ref a0, .int x1, .int x2, .int x3, .int x4, .int x5]).length) Slot.unset).toArray = ls at hl ⊢
  have hl : lv_has ls 8 [(0, .ref a0), (1, .int x1), (2, .int x2), (3, .int x3), (4, .int x4), (5, .int x5)] := hl
  refine ti_gen (P := fun H => TI D vwCl (tysOf c0) (RTg ν) Y H) (Y := Y) (ws := [27]) hT (fun H locs hT hS => ?_)
  refine lv_iload_n hx hb dX9_paste_0 rfl (lv_at hl 1 rfl) ?_
  refine ti_calli (va_runS (As := [.int x1]) (rest := []) ⟨hx, hb, hml, hown, hts⟩ (t_X9_isSlot l hT (iv_w hx1 (by decide))) (cwS 1 hts (good_S kw_1533 kw_1534 kw_2 kw_1535) rfl rfl rfl (by decide +kernel) ⟨by rw [hR]; decide, by rw [hR]; decide⟩) (ti_preS hK) rfl rfl hl.1 rfl (lv_room (Nat.le_of_ble_eq_true rfl)) dX9_paste_1 ⟨Nat.zero_le _, Nat.zero_le _⟩) hS (pW_sub rfl) (fun v1 H1 locs hB hS _ hk1 => ?_)
  obtain ⟨hH, hv1, hp1⟩ := hB
  rw [hH] at hS ⊢
  refine lv_if_eq (tgt := 14) hx hb dX9_paste_4 (by decide) (fun c4 => ?_) (fun c4 => ?_)
  · skip
    have kl0 : (0 : Int32).toInt = 0 := by decide
    have f4 := i_eq c4
    have hv1_4l : iv v1 0 0 := iv_eql hv1 (iv_c (x := (0 : Int32)) (k := 0) (by decide)) c4 (by decide)
    refine lv_bipush (v := (-2)) hx hb dX9_paste_14 (by decide) ?_
    exact ret _ _ _ _ _ dX9_paste_16 (⟨hT, iv_w (iv_c (x := (-2 : Int32)) (k := (-2)) (by decide)) (by decide)⟩) hS
  · skip
    have kl0 : (0 : Int32).toInt = 0 := by decide
    have f4 := i_ne c4
    have hv1_4l : iv v1 1 1 := iv_nel hv1 (iv_c (x := (0 : Int32)) (k := 0) (by decide)) c4 (by decide)
    have hx1_4p : iv x1 0 3 := by have b0a := (hx1).1; have b0b := (hx1).2; exact ⟨by omega, by omega⟩
    refine lv_iload_n hx hb dX9_paste_7 rfl (lv_at hl 3 rfl) ?_
    refine ti_calli (va_runS (As := [.int x3]) (rest := []) ⟨hx, hb, hml, hown, hts⟩ (t_X9_isSlot l hT (iv_w hx3 (by decide))) (cwS 1 hts (good_S kw_1533 kw_1534 kw_2 kw_1535) rfl rfl rfl (by decide +kernel) ⟨by rw [hR]; decide, by rw [hR]; decide⟩) (ti_preS hK) rfl rfl hl.1 rfl (lv_room (Nat.le_of_ble_eq_true rfl)) dX9_paste_8 ⟨Nat.zero_le _, Nat.zero_le _⟩) hS (pW_sub rfl) (fun v8 H1 locs hB hS _ hk8 => ?_)
    obtain ⟨hH, hv8, hp8⟩ := hB
    rw [hH] at hS ⊢
    refine lv_if_ne (tgt := 17) hx hb dX9_paste_11 (by decide) (fun c11 => ?_) (fun c11 => ?_)
    · skip
      have f11 := i_ne c11
      have hv8_11l : iv v8 1 1 := iv_nel hv8 (iv_c (x := (0 : Int32)) (k := 0) (by decide)) c11 (by decide)
      have hx3_11p : iv x3 0 3 := by have b0a := (hx3).1; have b0b := (hx3).2; exact ⟨by omega, by omega⟩
      refine lv_aload_n hx hb dX9_paste_17 rfl (lv_at hl 0 rfl) ?_
      refine ti_getr hx hb hts inlX9 hown hK hT ha0 rfl rfl rfl 5 (by decide) (hts _ kw_26) (fun _ h9 => h9) rfl dX9_paste_18 (fun v18 hv18 hm18 => ?_)
      refine lv_iload_n hx hb dX9_paste_21 rfl (lv_at hl 1 rfl) ?_
      refine ti_aald hx hb (aT5 hK) hT hv18 rfl hx1_4p (by decide) (fun _ _ _ => rfl) dX9_paste_22 (fun v22 hv22 => ?_)
      refine lv_astore (lv' := [(6, .ref v22), (0, .ref a0), (1, .int x1), (2, .int x2), (3, .int x3), (4, .int x4), (5, .int x5)]) hx hb dX9_paste_23 hl (by decide) rfl (fun ls hl => ?_)
      refine lv_aload_n hx hb dX9_paste_25 rfl (lv_at hl 1 rfl) ?_
      refine ti_getE (ci := 9) (v := .ref v18) hx hb hts inlX9 hown hK hm18 rfl (by decide) (hts _ kw_26) (fun _ h9 => h9) dX9_paste_26 ?_
      refine lv_iload_n hx hb dX9_paste_29 rfl (lv_at hl 4 rfl) ?_
      refine ti_aald hx hb (aT5 hK) hT hv18 rfl hx3_11p (by decide) (fun _ _ _ => rfl) dX9_paste_30 (fun v30 hv30 => ?_)
      refine lv_astore (lv' := [(7, .ref v30), (6, .ref v22), (0, .ref a0), (1, .int x1), (2, .int x2), (3, .int x3), (4, .int x4), (5, .int x5)]) hx hb dX9_paste_31 hl (by decide) rfl (fun ls hl => ?_)
      refine lv_aload hx hb dX9_paste_33 (lv_at hl 1 rfl) ?_
      refine ti_geti hx hb hts inlX5 hown hK hT hv22 rfl rfl rfl 0 (by decide) (hts _ kw_799) (fun _ h9 => h9) rfl dX9_paste_35 (fun v35 hv35 hm35 => ?_)
      refine lv_if_eq (tgt := 49) hx hb dX9_paste_38 (by decide) (fun c38 => ?_) (fun c38 => ?_)
      · skip
        have f38 := i_eq c38
        have hv35_38l : iv v35 0 0 := iv_eql hv35 (iv_c (x := (0 : Int32)) (k := 0) (by decide)) c38 (by decide)
        refine lv_bipush (v := (-6)) hx hb dX9_paste_49 (by decide) ?_
        exact ret _ _ _ _ _ dX9_paste_51 (⟨hT, iv_w (iv_c (x := (-6 : Int32)) (k := (-6)) (by decide)) (by decide)⟩) hS
      · skip
        have f38 := i_ne c38
        have hv35_38l : iv v35 1 1 := iv_nel hv35 (iv_c (x := (0 : Int32)) (k := 0) (by decide)) c38 (by decide)
        refine lv_aload hx hb dX9_paste_41 (lv_at hl 0 rfl) ?_
        refine ti_geti hx hb hts inlX5 hown hK hT hv30 rfl rfl rfl 0 (by decide) (hts _ kw_799) (fun _ h9 => h9) rfl dX9_paste_43 (fun v43 hv43 hm43 => ?_)
        refine lv_if_ne (tgt := 52) hx hb dX9_paste_46 (by decide) (fun c46 => ?_) (fun c46 => ?_)
        · skip
          have f46 := i_ne c46
          have hv43_46l : iv v43 1 1 := iv_nel hv43 (iv_c (x := (0 : Int32)) (k := 0) (by decide)) c46 (by decide)
          refine lv_aload hx hb dX9_paste_52 (lv_at hl 1 rfl) ?_
          refine ti_geti hx hb hts inlX5 hown hK hT hv22 rfl rfl rfl 1 (by decide) (hts _ kw_1566) (fun _ h9 => h9) rfl dX9_paste_54 (fun v54 hv54 hm54 => ?_)
          refine lv_aload hx hb dX9_paste_57 (lv_at hl 0 rfl) ?_
          refine ti_geti hx hb hts inlX5 hown hK hT hv30 rfl rfl rfl 1 (by decide) (hts _ kw_1566) (fun _ h9 => h9) rfl dX9_paste_59 (fun v59 hv59 hm59 => ?_)
          refine lv_icmp_eq (tgt := 68) hx hb dX9_paste_62 (by decide) (fun c62 => ?_) (fun c62 => ?_)
          · skip
            have f62 := i_eq c62
            refine lv_aload hx hb dX9_paste_68 (lv_at hl 1 rfl) ?_
            refine lv_iload_n hx hb dX9_paste_70 rfl (lv_at hl 4 rfl) ?_
            refine lv_iload hx hb dX9_paste_71 (lv_at hl 7 rfl) ?_
            refine ti_calli (va_runV (As := [.int x2, .int x5]) (rest := []) ⟨hx, hb, hml, hown, hts⟩ (t_X5_spans l hT hv22 (iv_w hx2 (by decide)) (iv_w hx5 (by decide))) (cwV 2 hts (good_V kw_1568 kw_1569 kw_1570 kw_43 kw_1571) rfl rfl rfl (by decide +kernel) ⟨by rw [hR]; decide, by rw [hR]; decide⟩) (ti_preV hK hT hv22 rfl rfl) rfl rfl hl.1 rfl (lv_room (Nat.le_of_ble_eq_true rfl)) dX9_paste_73 ⟨Nat.zero_le _, Nat.zero_le _⟩) hS (pW_sub rfl) (fun v73 H1 locs hB hS _ hk73 => ?_)
            obtain ⟨hH, hv73, hp73⟩ := hB
            rw [hH] at hS ⊢
            refine lv_if_eq (tgt := 91) hx hb dX9_paste_76 (by decide) (fun c76 => ?_) (fun c76 => ?_)
            · skip
              have f76 := i_eq c76
              have hv73_76l : iv v73 0 0 := iv_eql hv73 (iv_c (x := (0 : Int32)) (k := 0) (by decide)) c76 (by decide)
              refine lv_bipush (v := (-7)) hx hb dX9_paste_91 (by decide) ?_
              exact ret _ _ _ _ _ dX9_paste_93 (⟨hT, iv_w (iv_c (x := (-7 : Int32)) (k := (-7)) (by decide)) (by decide)⟩) hS
            · skip
              have f76 := i_ne c76
              have hv73_76l : iv v73 1 1 := iv_nel hv73 (iv_c (x := (0 : Int32)) (k := 0) (by decide)) c76 (by decide)
              have hx2_76p : iv x2 0 60 := by have b0a := (hx2).1; have b0b := (hx2).2; exact ⟨by omega, by omega⟩
              have hx5_76p : iv x5 0 60 := by have b0a := (hx5).1; have b0b := (hx5).2; exact ⟨by omega, by omega⟩
              refine lv_aload hx hb dX9_paste_79 (lv_at hl 0 rfl) ?_
              refine lv_iload hx hb dX9_paste_81 (lv_at hl 6 rfl) ?_
              refine lv_iload hx hb dX9_paste_83 (lv_at hl 7 rfl) ?_
              refine ti_calli (va_runV (As := [.int x4, .int x5]) (rest := []) ⟨hx, hb, hml, hown, hts⟩ (t_X5_spans l hT hv30 (iv_w hx4 (by decide)) (iv_w hx5_76p (by decide))) (cwV 2 hts (good_V kw_1568 kw_1569 kw_1570 kw_43 kw_1571) rfl rfl rfl (by decide +kernel) ⟨by rw [hR]; decide, by rw [hR]; decide⟩) (ti_preV hK hT hv30 rfl rfl) rfl rfl hl.1 rfl (lv_room (Nat.le_of_ble_eq_true rfl)) dX9_paste_85 ⟨Nat.zero_le _, Nat.zero_le _⟩) hS (pW_sub rfl) (fun v85 H1 locs hB hS _ hk85 => ?_)
              obtain ⟨hH, hv85, hp85⟩ := hB
              rw [hH] at hS ⊢
              refine lv_if_ne (tgt := 94) hx hb dX9_paste_88 (by decide) (fun c88 => ?_) (fun c88 => ?_)
              · skip
                have f88 := i_ne c88
                have hv85_88l : iv v85 1 1 := iv_nel hv85 (iv_c (x := (0 : Int32)) (k := 0) (by decide)) c88 (by decide)
                have hx4_88p : iv x4 0 60 := by have b0a := (hx4).1; have b0b := (hx4).2; exact ⟨by omega, by omega⟩
                refine lv_aload hx hb dX9_paste_94 (lv_at hl 1 rfl) ?_
                refine ti_getr hx hb hts inlX5 hown hK hT hv22 rfl rfl rfl 3 (by decide) (hts _ kw_801) (fun _ h9 => h9) rfl dX9_paste_96 (fun v96 hv96 hm96 => ?_)
                refine lv_iload_n hx hb dX9_paste_99 rfl (lv_at hl 4 rfl) ?_
                refine lv_aload hx hb dX9_paste_100 (lv_at hl 0 rfl) ?_
                refine ti_getr hx hb hts inlX5 hown hK hT hv30 rfl rfl rfl 3 (by decide) (hts _ kw_801) (fun _ h9 => h9) rfl dX9_paste_102 (fun v102 hv102 hm102 => ?_)
                refine lv_iload hx hb dX9_paste_105 (lv_at hl 6 rfl) ?_
                refine lv_iload hx hb dX9_paste_107 (lv_at hl 7 rfl) ?_
                refine ti_copyl hx hb (by rw [hml]; exact hl.1.symm) hown (hts _ kw_1567) (hts _ kw_347) (hts _ kw_348) (hts _ kw_349) hK hT hS hv96 hv102 rfl rfl (fun _ => trivial) (fun _ _ => rfl) (by have b0a := (hx1_4p).1; have b0b := (hx1_4p).2; have b1a := (hx2_76p).1; have b1b := (hx2_76p).2; have b2a := (hx3_11p).1; have b2b := (hx3_11p).2; have b3a := (hx4_88p).1; have b3b := (hx4_88p).2; have b4a := (hx5_76p).1; have b4b := (hx5_76p).2; have b5a := (hv1_4l).1; have b5b := (hv1_4l).2; have b6a := (hv8_11l).1; have b6b := (hv8_11l).2; have b7a := (hv35_38l).1; have b7b := (hv35_38l).2; have b8a := (hv43_46l).1; have b8b := (hv43_46l).2; have b9a := (hv54).1; have b9b := (hv54).2; have b10a := (hv59).1; have b10b := (hv59).2; have b11a := (hv73_76l).1; have b11b := (hv73_76l).2; have b12a := (hv85_88l).1; have b12b := (hv85_88l).2; omega) (by have b0a := (hx1_4p).1; have b0b := (hx1_4p).2; have b1a := (hx2_76p).1; have b1b := (hx2_76p).2; have b2a := (hx3_11p).1; have b2b := (hx3_11p).2; have b3a := (hx4_88p).1; have b3b := (hx4_88p).2; have b4a := (hx5_76p).1; have b4b := (hx5_76p).2; have b5a := (hv1_4l).1; have b5b := (hv1_4l).2; have b6a := (hv8_11l).1; have b6b := (hv8_11l).2; have b7a := (hv35_38l).1; have b7b := (hv35_38l).2; have b8a := (hv43_46l).1; have b8b := (hv43_46l).2; have b9a := (hv54).1; have b9b := (hv54).2; have b10a := (hv59).1; have b10b := (hv59).2; have b11a := (hv73_76l).1; have b11b := (hv73_76l).2; have b12a := (hv85_88l).1; have b12b := (hv85_88l).2; omega) (by have b0a := (hx1_4p).1; have b0b := (hx1_4p).2; have b1a := (hx2_76p).1; have b1b := (hx2_76p).2; have b2a := (hx3_11p).1; have b2b := (hx3_11p).2; have b3a := (hx4_88p).1; have b3b := (hx4_88p).2; have b4a := (hx5_76p).1; have b4b := (hx5_76p).2; have b5a := (hv1_4l).1; have b5b := (hv1_4l).2; have b6a := (hv8_11l).1; have b6b := (hv8_11l).2; have b7a := (hv35_38l).1; have b7b := (hv35_38l).2; have b8a := (hv43_46l).1; have b8b := (hv43_46l).2; have b9a := (hv54).1; have b9b := (hv54).2; have b10a := (hv59).1; have b10b := (hv59).2; have b11a := (hv73_76l).1; have b11b := (hv73_76l).2; have b12a := (hv85_88l).1; have b12b := (hv85_88l).2; omega) (by have b0a := (hx1_4p).1; have b0b := (hx1_4p).2; have b1a := (hx2_76p).1; have b1b := (hx2_76p).2; have b2a := (hx3_11p).1; have b2b := (hx3_11p).2; have b3a := (hx4_88p).1; have b3b := (hx4_88p).2; have b4a := (hx5_76p).1; have b4b := (hx5_76p).2; have b5a := (hv1_4l).1; have b5b := (hv1_4l).2; have b6a := (hv8_11l).1; have b6b := (hv8_11l).2; have b7a := (hv35_38l).1; have b7b := (hv35_38l).2; have b8a := (hv43_46l).1; have b8b := (hv43_46l).2; have b9a := (hv54).1; have b9b := (hv54).2; have b10a := (hv59).1; have b10b := (hv59).2; have b11a := (hv73_76l).1; have b11b := (hv73_76l).2; have b12a := (hv85_88l).1; have b12b := (hv85_88l).2; show _ ≤ (60 : Int); omega) (by have b0a := (hx1_4p).1; have b0b := (hx1_4p).2; have b1a := (hx2_76p).1; have b1b := (hx2_76p).2; have b2a := (hx3_11p).1; have b2b := (hx3_11p).2; have b3a := (hx4_88p).1; have b3b := (hx4_88p).2; have b4a := (hx5_76p).1; have b4b := (hx5_76p).2; have b5a := (hv1_4l).1; have b5b := (hv1_4l).2; have b6a := (hv8_11l).1; have b6b := (hv8_11l).2; have b7a := (hv35_38l).1; have b7b := (hv35_38l).2; have b8a := (hv43_46l).1; have b8b := (hv43_46l).2; have b9a := (hv54).1; have b9b := (hv54).2; have b10a := (hv59).1; have b10b := (hv59).2; have b11a := (hv73_76l).1; have b11b := (hv73_76l).2; have b12a := (hv85_88l).1; have b12b := (hv85_88l).2; show _ ≤ (60 : Int); omega) (by rw [hR]; decide) (by rw [hR]; exact Nat.le_of_ble_eq_true rfl) dX9_paste_109 (fun H locs hT hS => ?_)
                refine lv_iconst (v := 0) hx hb dX9_paste_112 (by decide) ?_
                exact ret _ _ _ _ _ dX9_paste_113 (⟨hT, iv_w (iv_c (x := (0 : Int32)) (k := 0) (by decide)) (by decide)⟩) hS
              · skip
                have f88 := i_eq c88
                have hv85_88l : iv v85 0 0 := iv_eql hv85 (iv_c (x := (0 : Int32)) (k := 0) (by decide)) c88 (by decide)
                refine lv_bipush (v := (-7)) hx hb dX9_paste_91 (by decide) ?_
                exact ret _ _ _ _ _ dX9_paste_93 (⟨hT, iv_w (iv_c (x := (-7 : Int32)) (k := (-7)) (by decide)) (by decide)⟩) hS
          · skip
            have f62 := i_ne c62
            refine lv_bipush (v := (-8)) hx hb dX9_paste_65 (by decide) ?_
            exact ret _ _ _ _ _ dX9_paste_67 (⟨hT, iv_w (iv_c (x := (-8 : Int32)) (k := (-8)) (by decide)) (by decide)⟩) hS
        · skip
          have f46 := i_eq c46
          have hv43_46l : iv v43 0 0 := iv_eql hv43 (iv_c (x := (0 : Int32)) (k := 0) (by decide)) c46 (by decide)
          refine lv_bipush (v := (-6)) hx hb dX9_paste_49 (by decide) ?_
          exact ret _ _ _ _ _ dX9_paste_51 (⟨hT, iv_w (iv_c (x := (-6 : Int32)) (k := (-6)) (by decide)) (by decide)⟩) hS
    · skip
      have f11 := i_eq c11
      have hv8_11l : iv v8 0 0 := iv_eql hv8 (iv_c (x := (0 : Int32)) (k := 0) (by decide)) c11 (by decide)
      refine lv_bipush (v := (-2)) hx hb dX9_paste_14 (by decide) ?_
      exact ret _ _ _ _ _ dX9_paste_16 (⟨hT, iv_w (iv_c (x := (-2 : Int32)) (k := (-2)) (by decide)) (by decide)⟩) hS
