set_option maxHeartbeats 4000000 in
set_option maxRecDepth 100000 in
theorem t_X10_paste (l : Launch) {D : va_G} {c0 : Nat → ClassId} {Y : Nat → Option Nat} {ν : Nat → Nat} {H : Heap} (hT : TI D vwCl (tysOf c0) (RTg ν) Y H) {a0 : Nat} (ha0 : Y a0 = some 10) {x1 : Int32} (hx1 : iv x1 (-2147483648) 2147483647) {x2 : Int32} (hx2 : iv x2 (-2147483648) 2147483647) {x3 : Int32} (hx3 : iv x3 (-2147483648) 2147483647) {x4 : Int32} (hx4 : iv x4 (-2147483648) 2147483647) {x5 : Int32} (hx5 : iv x5 (-2147483648) 2147483647) (hνb : ∀ j, j < 4 → ν (6 + j) ≤ 61) (hU : uq Y) : Met l yX10_paste (wz yX10_paste cX10_paste 7 (some .int)) { frames := 2, cells := 0, slots := 0, locals := 45 } (TP D vwCl (tysOf c0) H [.ref a0, .int x1, .int x2, .int x3, .int x4, .int x5]) (TQi (fun x H' => TI D vwCl (tysOf c0) (RTg ν) Y H' ∧ iv x (-8) 0) Y [27, 39]) 0 0 (pW Y [27, 39]) := by
  refine Met.ofW (cc := cX10_paste) (maxL := 7) (ret := (some .int)) (by decide) rfl ?_
  intro p e s m args below meth c s₁ B hml hv
  obtain ⟨rfl, rfl, hK⟩ := hv
  have hx := B.exec
  have hb := B.bytes
  have hr := B.returns
  have hts : ∀ w ∈ wq, w.before _ s = true := fun w h => atoms_spec (ws := wz yX10_paste cX10_paste 7 (some .int)) B.pre w (List.mem_cons_of_mem _ h)
  have hown : s.vm.findClass RX10 = some m.cls := findClass_of_methodNamed B.named
  have hlocks := B.notSynchronized
  obtain ⟨R, hR⟩ : ∃ R : Room, R = ({ frames := 2, cells := 0, slots := 0, locals := 45 } : Room) := ⟨_, rfl⟩
  rw [show (headSpec (wz yX10_paste cX10_paste 7 (some .int)) { frames := 2, cells := 0, slots := 0, locals := 45 }).room = R from hR.symm]
  refine ti_mi hx hb hr hlocks (fun Q ret => ?_)
  have hl := lv_entry [.ref a0, .int x1, .int x2, .int x3, .int x4, .int x5] (n := 7) (Nat.le_of_ble_eq_true rfl)
  rw [lg_entry_eq]
  generalize (lg_sl [.ref a0, .int x1, .int x2, .int x3, .int x4, .int x5] ++ List.replicate (7 - (lg_sl [.ref a0, .int x1, .int x2, .int x3, .int x4, .int x5]).length) Slot.unset).toArray = ls at hl ⊢
  have hl : lv_has ls 7 [(0, .ref a0), (1, .int x1), (2, .int x2), (3, .int x3), (4, .int x4), (5, .int x5)] := hl
  refine ti_gen (P := fun H => TI D vwCl (tysOf c0) (RTg ν) Y H) (Y := Y) (ws := [27, 39]) hT (fun H locs hT hS => ?_)
  refine lv_iload_n hx hb dX10_paste_0 rfl (lv_at hl 1 rfl) ?_
  refine ti_calli (va_runS (As := [.int x1]) (rest := []) ⟨hx, hb, hml, hown, hts⟩ (t_X10_isSlot l hT (iv_w hx1 (by decide))) (cwS 1 hts (good_S kw_816 kw_817 kw_5 kw_818) rfl rfl rfl (by decide +kernel) ⟨by rw [hR]; decide, by rw [hR]; decide⟩) (ti_preS hK) rfl rfl hl.1 rfl (lv_room (Nat.le_of_ble_eq_true rfl)) dX10_paste_1 ⟨Nat.zero_le _, Nat.zero_le _⟩) hS (pW_sub rfl) (fun v1 H1 locs hB hS _ hk1 => ?_)
  obtain ⟨hH, hv1, hp1⟩ := hB
  rw [hH] at hS ⊢
  refine lv_if_eq (tgt := 14) hx hb dX10_paste_4 (by decide) (fun c4 => ?_) (fun c4 => ?_)
  · skip
    have kl0 : (0 : Int32).toInt = 0 := by decide
    have f4 := i_eq c4
    have hv1_4l : iv v1 0 0 := iv_eql hv1 (iv_c (x := (0 : Int32)) (k := 0) (by decide)) c4 (by decide)
    refine lv_bipush (v := (-2)) hx hb dX10_paste_14 (by decide) ?_
    exact ret _ _ _ _ _ dX10_paste_16 (⟨hT, iv_w (iv_c (x := (-2 : Int32)) (k := (-2)) (by decide)) (by decide)⟩) hS
  · skip
    have kl0 : (0 : Int32).toInt = 0 := by decide
    have f4 := i_ne c4
    have hv1_4l : iv v1 1 1 := iv_nel hv1 (iv_c (x := (0 : Int32)) (k := 0) (by decide)) c4 (by decide)
    have hx1_4p : iv x1 0 3 := by have b0a := (hx1).1; have b0b := (hx1).2; exact ⟨by omega, by omega⟩
    refine lv_iload_n hx hb dX10_paste_7 rfl (lv_at hl 3 rfl) ?_
    refine ti_calli (va_runS (As := [.int x3]) (rest := []) ⟨hx, hb, hml, hown, hts⟩ (t_X10_isSlot l hT (iv_w hx3 (by decide))) (cwS 1 hts (good_S kw_816 kw_817 kw_5 kw_818) rfl rfl rfl (by decide +kernel) ⟨by rw [hR]; decide, by rw [hR]; decide⟩) (ti_preS hK) rfl rfl hl.1 rfl (lv_room (Nat.le_of_ble_eq_true rfl)) dX10_paste_8 ⟨Nat.zero_le _, Nat.zero_le _⟩) hS (pW_sub rfl) (fun v8 H1 locs hB hS _ hk8 => ?_)
    obtain ⟨hH, hv8, hp8⟩ := hB
    rw [hH] at hS ⊢
    refine lv_if_ne (tgt := 17) hx hb dX10_paste_11 (by decide) (fun c11 => ?_) (fun c11 => ?_)
    · skip
      have f11 := i_ne c11
      have hv8_11l : iv v8 1 1 := iv_nel hv8 (iv_c (x := (0 : Int32)) (k := 0) (by decide)) c11 (by decide)
      have hx3_11p : iv x3 0 3 := by have b0a := (hx3).1; have b0b := (hx3).2; exact ⟨by omega, by omega⟩
      refine lv_aload_n hx hb dX10_paste_17 rfl (lv_at hl 0 rfl) ?_
      refine ti_getr hx hb hts inlX10 hown hK hT ha0 rfl rfl rfl 34 (by decide) (hts _ kw_151) (fun _ h9 => h9) rfl dX10_paste_18 (fun v18 hv18 hm18 => ?_)
      refine lv_iload_n hx hb dX10_paste_21 rfl (lv_at hl 1 rfl) ?_
      refine ti_ialdD hx hb (aT0 hK) hT hv18 rfl hx1_4p (by decide) (fun j => ⟨_, _, rfl⟩) dX10_paste_22 (fun v22 hz22 _ => ?_)
      have s22 : v22.toInt = (ν (6 + x1.toNatClampNeg) : Int) - 1 := many_e hz22
      have hv22 : iv v22 (-1) 60 := many_iv hνb s22 hx1_4p (by decide)
      refine lv_iconst (v := (-1)) hx hb dX10_paste_23 (by decide) ?_
      refine lv_icmp_eq (tgt := 37) hx hb dX10_paste_24 (by decide) (fun c24 => ?_) (fun c24 => ?_)
      · skip
        have klm1 : (-1 : Int32).toInt = (-1) := by decide
        have f24 := i_eq c24
        have hv22_24l : iv v22 (-1) (-1) := iv_eql hv22 (iv_c (x := (-1 : Int32)) (k := (-1)) (by decide)) c24 (by decide)
        refine lv_bipush (v := (-6)) hx hb dX10_paste_37 (by decide) ?_
        exact ret _ _ _ _ _ dX10_paste_39 (⟨hT, iv_w (iv_c (x := (-6 : Int32)) (k := (-6)) (by decide)) (by decide)⟩) hS
      · skip
        have klm1 : (-1 : Int32).toInt = (-1) := by decide
        have f24 := i_ne c24
        have hv22_24l : iv v22 0 60 := iv_nel hv22 (iv_c (x := (-1 : Int32)) (k := (-1)) (by decide)) c24 (by decide)
        refine lv_aload_n hx hb dX10_paste_27 rfl (lv_at hl 0 rfl) ?_
        refine ti_getE (ci := 10) (v := .ref v18) hx hb hts inlX10 hown hK hm18 rfl (by decide) (hts _ kw_151) (fun _ h9 => h9) dX10_paste_28 ?_
        refine lv_iload_n hx hb dX10_paste_31 rfl (lv_at hl 3 rfl) ?_
        refine ti_ialdD hx hb (aT0 hK) hT hv18 rfl hx3_11p (by decide) (fun j => ⟨_, _, rfl⟩) dX10_paste_32 (fun v32 hz32 _ => ?_)
        have s32 : v32.toInt = (ν (6 + x3.toNatClampNeg) : Int) - 1 := many_e hz32
        have hv32 : iv v32 (-1) 60 := many_iv hνb s32 hx3_11p (by decide)
        refine lv_iconst (v := (-1)) hx hb dX10_paste_33 (by decide) ?_
        refine lv_icmp_ne (tgt := 40) hx hb dX10_paste_34 (by decide) (fun c34 => ?_) (fun c34 => ?_)
        · skip
          have f34 := i_ne c34
          have hv32_34l : iv v32 0 60 := iv_nel hv32 (iv_c (x := (-1 : Int32)) (k := (-1)) (by decide)) c34 (by decide)
          refine lv_aload_n hx hb dX10_paste_40 rfl (lv_at hl 0 rfl) ?_
          refine ti_getr hx hb hts inlX10 hown hK hT ha0 rfl rfl rfl 35 (by decide) (hts _ kw_152) (fun _ h9 => h9) rfl dX10_paste_41 (fun v41 hv41 hm41 => ?_)
          refine lv_iload_n hx hb dX10_paste_44 rfl (lv_at hl 1 rfl) ?_
          refine ti_iald (lo := 0) (hi := 3) hx hb (aT0 hK) hT hv41 rfl hx1_4p (by decide) (fun _ _ _ => ⟨_, _, rfl, by decide, by decide⟩) dX10_paste_45 (fun v45 hv45 hm45 => ?_)
          refine lv_aload_n hx hb dX10_paste_46 rfl (lv_at hl 0 rfl) ?_
          refine ti_getE (ci := 10) (v := .ref v41) hx hb hts inlX10 hown hK hm41 rfl (by decide) (hts _ kw_152) (fun _ h9 => h9) dX10_paste_47 ?_
          refine lv_iload_n hx hb dX10_paste_50 rfl (lv_at hl 3 rfl) ?_
          refine ti_iald (lo := 0) (hi := 3) hx hb (aT0 hK) hT hv41 rfl hx3_11p (by decide) (fun _ _ _ => ⟨_, _, rfl, by decide, by decide⟩) dX10_paste_51 (fun v51 hv51 hm51 => ?_)
          refine lv_icmp_eq (tgt := 58) hx hb dX10_paste_52 (by decide) (fun c52 => ?_) (fun c52 => ?_)
          · skip
            have f52 := i_eq c52
            refine lv_iload_n hx hb dX10_paste_58 rfl (lv_at hl 2 rfl) ?_
            refine lv_if_lt (tgt := 107) hx hb dX10_paste_59 (by decide) (fun c59 => ?_) (fun c59 => ?_)
            · skip
              have f59 := i_lt c59
              have hx2_59l : iv x2 (-2147483648) (-1) := iv_ltl hx2 (iv_c (x := (0 : Int32)) (k := 0) (by decide)) c59 (by decide)
              refine lv_bipush (v := (-7)) hx hb dX10_paste_107 (by decide) ?_
              exact ret _ _ _ _ _ dX10_paste_109 (⟨hT, iv_w (iv_c (x := (-7 : Int32)) (k := (-7)) (by decide)) (by decide)⟩) hS
            · skip
              have f59 := i_nlt c59
              have hx2_59r : iv x2 0 2147483647 := iv_ler (iv_c (x := (0 : Int32)) (k := 0) (by decide)) hx2 (Int32.not_lt.mp c59) (by decide)
              refine lv_iload hx hb dX10_paste_62 (lv_at hl 4 rfl) ?_
              refine lv_if_lt (tgt := 107) hx hb dX10_paste_64 (by decide) (fun c64 => ?_) (fun c64 => ?_)
              · skip
                have f64 := i_lt c64
                have hx4_64l : iv x4 (-2147483648) (-1) := iv_ltl hx4 (iv_c (x := (0 : Int32)) (k := 0) (by decide)) c64 (by decide)
                refine lv_bipush (v := (-7)) hx hb dX10_paste_107 (by decide) ?_
                exact ret _ _ _ _ _ dX10_paste_109 (⟨hT, iv_w (iv_c (x := (-7 : Int32)) (k := (-7)) (by decide)) (by decide)⟩) hS
              · skip
                have f64 := i_nlt c64
                have hx4_64r : iv x4 0 2147483647 := iv_ler (iv_c (x := (0 : Int32)) (k := 0) (by decide)) hx4 (Int32.not_lt.mp c64) (by decide)
                refine lv_iload hx hb dX10_paste_67 (lv_at hl 5 rfl) ?_
                refine lv_if_lt (tgt := 107) hx hb dX10_paste_69 (by decide) (fun c69 => ?_) (fun c69 => ?_)
                · skip
                  have f69 := i_lt c69
                  have hx5_69l : iv x5 (-2147483648) (-1) := iv_ltl hx5 (iv_c (x := (0 : Int32)) (k := 0) (by decide)) c69 (by decide)
                  refine lv_bipush (v := (-7)) hx hb dX10_paste_107 (by decide) ?_
                  exact ret _ _ _ _ _ dX10_paste_109 (⟨hT, iv_w (iv_c (x := (-7 : Int32)) (k := (-7)) (by decide)) (by decide)⟩) hS
                · skip
                  have f69 := i_nlt c69
                  have hx5_69r : iv x5 0 2147483647 := iv_ler (iv_c (x := (0 : Int32)) (k := 0) (by decide)) hx5 (Int32.not_lt.mp c69) (by decide)
                  refine lv_iload_n hx hb dX10_paste_72 rfl (lv_at hl 2 rfl) ?_
                  refine lv_i2l hx hb dX10_paste_73 rfl ?_
                  refine lv_topl (fun v73 e73 => ?_)
                  have hv73 : jv v73 0 2147483647 := by rw [e73]; exact jv_i hx2_59r
                  have t73 : v73.toInt = x2.toInt := by rw [e73]; exact jv_e _
                  refine lv_iload hx hb dX10_paste_74 (lv_at hl 5 rfl) ?_
                  refine lv_i2l hx hb dX10_paste_76 rfl ?_
                  refine lv_topl (fun v76 e76 => ?_)
                  have hv76 : jv v76 0 2147483647 := by rw [e76]; exact jv_i hx5_69r
                  have t76 : v76.toInt = x5.toInt := by rw [e76]; exact jv_e _
                  refine lv_ladd hx hb dX10_paste_77 ?_
                  refine lv_topl (fun v77 e77 => ?_)
                  have s77 : v77.toInt = v73.toInt + v76.toInt := by rw [e77]; exact jv_addE hv73 hv76 (by decide)
                  have hv77 : jv v77 0 4294967294 := by have b0a := (hv73).1; have b0b := (hv73).2; have b1a := (hv76).1; have b1b := (hv76).2; exact ⟨by omega, by omega⟩
                  refine lv_aload_n hx hb dX10_paste_78 rfl (lv_at hl 0 rfl) ?_
                  refine ti_getE (ci := 10) (v := .ref v18) hx hb hts inlX10 hown hK hm18 rfl (by decide) (hts _ kw_151) (fun _ h9 => h9) dX10_paste_79 ?_
                  refine lv_iload_n hx hb dX10_paste_82 rfl (lv_at hl 1 rfl) ?_
                  refine ti_ialdD hx hb (aT0 hK) hT hv18 rfl hx1_4p (by decide) (fun j => ⟨_, _, rfl⟩) dX10_paste_83 (fun v83 hz83 _ => ?_)
                  have s83 : v83.toInt = (ν (6 + x1.toNatClampNeg) : Int) - 1 := many_e hz83
                  have hv83 : iv v83 (-1) 60 := many_iv hνb s83 hx1_4p (by decide)
                  have hq83_1562 : iv v83 0 60 := by have b0a := (hv22_24l).1; have b0b := (hv22_24l).2; have b1a := (hv83).1; have b1b := (hv83).2; exact ⟨by omega, by omega⟩
                  refine lv_i2l hx hb dX10_paste_84 rfl ?_
                  refine lv_topl (fun v84 e84 => ?_)
                  have hv84 : jv v84 0 60 := by rw [e84]; exact jv_i hq83_1562
                  have t84 : v84.toInt = v83.toInt := by rw [e84]; exact jv_e _
                  refine W.lcmp hx hb dX10_paste_85 ?_
                  refine lv_if_gt (tgt := 107) hx hb dX10_paste_86 (by decide) (fun c86 => ?_) (fun c86 => ?_)
                  · skip
                    have f86 := jc_gt c86
                    have hv77_86a : jv v77 1 4294967294 := by have b0a := (hv77).1; have b0b := (hv77).2; have b1a := (hv84).1; have b1b := (hv84).2; exact ⟨by omega, by omega⟩
                    refine lv_bipush (v := (-7)) hx hb dX10_paste_107 (by decide) ?_
                    exact ret _ _ _ _ _ dX10_paste_109 (⟨hT, iv_w (iv_c (x := (-7 : Int32)) (k := (-7)) (by decide)) (by decide)⟩) hS
                  · skip
                    have f86 := jc_ngt c86
                    have hv77_86a : jv v77 0 60 := by have b0a := (hv77).1; have b0b := (hv77).2; have b1a := (hv84).1; have b1b := (hv84).2; exact ⟨by omega, by omega⟩
                    have hq86_1563 : iv x2 0 60 := by have b0a := (hv77_86a).1; have b0b := (hv77_86a).2; have b1a := (hx2_59r).1; have b1b := (hx2_59r).2; have b2a := (hx5_69r).1; have b2b := (hx5_69r).2; exact ⟨by omega, by omega⟩
                    have hq86_1564 : iv x5 0 60 := by have b0a := (hv77_86a).1; have b0b := (hv77_86a).2; have b1a := (hq86_1563).1; have b1b := (hq86_1563).2; have b2a := (hx5_69r).1; have b2b := (hx5_69r).2; exact ⟨by omega, by omega⟩
                    refine lv_iload hx hb dX10_paste_89 (lv_at hl 4 rfl) ?_
                    refine lv_i2l hx hb dX10_paste_91 rfl ?_
                    refine lv_topl (fun v91 e91 => ?_)
                    have hv91 : jv v91 0 2147483647 := by rw [e91]; exact jv_i hx4_64r
                    have t91 : v91.toInt = x4.toInt := by rw [e91]; exact jv_e _
                    refine lv_iload hx hb dX10_paste_92 (lv_at hl 5 rfl) ?_
                    refine lv_i2l hx hb dX10_paste_94 rfl ?_
                    refine lv_topl (fun v94 e94 => ?_)
                    have hv94 : jv v94 0 60 := by rw [e94]; exact jv_i hq86_1564
                    have t94 : v94.toInt = x5.toInt := by rw [e94]; exact jv_e _
                    refine lv_ladd hx hb dX10_paste_95 ?_
                    refine lv_topl (fun v95 e95 => ?_)
                    have s95 : v95.toInt = v91.toInt + v94.toInt := by rw [e95]; exact jv_addE hv91 hv94 (by decide)
                    have hv95 : jv v95 0 2147483707 := by have b0a := (hv91).1; have b0b := (hv91).2; have b1a := (hv94).1; have b1b := (hv94).2; exact ⟨by omega, by omega⟩
                    refine lv_aload_n hx hb dX10_paste_96 rfl (lv_at hl 0 rfl) ?_
                    refine ti_getE (ci := 10) (v := .ref v18) hx hb hts inlX10 hown hK hm18 rfl (by decide) (hts _ kw_151) (fun _ h9 => h9) dX10_paste_97 ?_
                    refine lv_iload_n hx hb dX10_paste_100 rfl (lv_at hl 3 rfl) ?_
                    refine ti_ialdD hx hb (aT0 hK) hT hv18 rfl hx3_11p (by decide) (fun j => ⟨_, _, rfl⟩) dX10_paste_101 (fun v101 hz101 _ => ?_)
                    have s101 : v101.toInt = (ν (6 + x3.toNatClampNeg) : Int) - 1 := many_e hz101
                    have hv101 : iv v101 (-1) 60 := many_iv hνb s101 hx3_11p (by decide)
                    have hq101_1565 : iv v101 0 60 := by have b0a := (hv32_34l).1; have b0b := (hv32_34l).2; have b1a := (hv101).1; have b1b := (hv101).2; exact ⟨by omega, by omega⟩
                    refine lv_i2l hx hb dX10_paste_102 rfl ?_
                    refine lv_topl (fun v102 e102 => ?_)
                    have hv102 : jv v102 0 60 := by rw [e102]; exact jv_i hq101_1565
                    have t102 : v102.toInt = v101.toInt := by rw [e102]; exact jv_e _
                    refine W.lcmp hx hb dX10_paste_103 ?_
                    refine lv_if_le (tgt := 110) hx hb dX10_paste_104 (by decide) (fun c104 => ?_) (fun c104 => ?_)
                    · skip
                      have f104 := jc_le c104
                      have hv95_104a : jv v95 0 60 := by have b0a := (hv95).1; have b0b := (hv95).2; have b1a := (hv102).1; have b1b := (hv102).2; exact ⟨by omega, by omega⟩
                      have hq104_1566 : iv x4 0 60 := by have b0a := (hv95_104a).1; have b0b := (hv95_104a).2; have b1a := (hx4_64r).1; have b1b := (hx4_64r).2; have b2a := (hq86_1564).1; have b2b := (hq86_1564).2; exact ⟨by omega, by omega⟩
                      refine lv_iconst (v := 0) hx hb dX10_paste_110 (by decide) ?_
                      have J113 : ∀ (n : Nat) (j113_L6 : Int32) (H : Heap) (locs : List Loc) (ls : Array Slot), (60 - j113_L6.toInt).toNat < n → iv j113_L6 0 60 → TI D vwCl (tysOf c0) (RTg ν) Y H → va_S (pW Y [27, 39]) s.heap H locs → lv_has ls 7 [(0, .ref a0), (1, .int x1), (2, .int x2), (3, .int x3), (4, .int x4), (5, .int x5), (6, .int j113_L6)] → W p l e R s m ([.ref a0, .int x1, .int x2, .int x3, .int x4, .int x5] : List Value).toArray below meth c H locs 0 0 Q (F0 m 113 ls []) := by
                        intro n
                        induction n with
                        | zero => intro j113_L6 H locs ls hms; exact absurd hms (Nat.not_lt_zero _)
                        | succ n ih113 =>
                          intro j113_L6 H locs ls hms113 hj113_L6 hT hS hl
                          refine lv_iload hx hb dX10_paste_113 (lv_at hl 6 rfl) ?_
                          refine lv_iload hx hb dX10_paste_115 (lv_at hl 5 rfl) ?_
                          refine lv_icmp_ge (tgt := 147) hx hb dX10_paste_117 (by decide) (fun c117 => ?_) (fun c117 => ?_)
                          · skip
                            have f117 := i_le c117
                            refine lv_iconst (v := 0) hx hb dX10_paste_147 (by decide) ?_
                            have J150 : ∀ (n : Nat) (j150_L6 : Int32) (H : Heap) (locs : List Loc) (ls : Array Slot), (60 - j150_L6.toInt).toNat < n → iv j150_L6 0 60 → TI D vwCl (tysOf c0) (RTg ν) Y H → va_S (pW Y [27, 39]) s.heap H locs → lv_has ls 7 [(0, .ref a0), (1, .int x1), (2, .int x2), (3, .int x3), (4, .int x4), (5, .int x5), (6, .int j150_L6)] → W p l e R s m ([.ref a0, .int x1, .int x2, .int x3, .int x4, .int x5] : List Value).toArray below meth c H locs 0 0 Q (F0 m 150 ls []) := by
                              intro n
                              induction n with
                              | zero => intro j150_L6 H locs ls hms; exact absurd hms (Nat.not_lt_zero _)
                              | succ n ih150 =>
                                intro j150_L6 H locs ls hms150 hj150_L6 hT hS hl
                                refine lv_iload hx hb dX10_paste_150 (lv_at hl 6 rfl) ?_
                                refine lv_iload hx hb dX10_paste_152 (lv_at hl 5 rfl) ?_
                                refine lv_icmp_ge (tgt := 185) hx hb dX10_paste_154 (by decide) (fun c154 => ?_) (fun c154 => ?_)
                                · skip
                                  have f154 := i_le c154
                                  refine lv_iconst (v := 0) hx hb dX10_paste_185 (by decide) ?_
                                  exact ret _ _ _ _ _ dX10_paste_186 (⟨hT, iv_w (iv_c (x := (0 : Int32)) (k := 0) (by decide)) (by decide)⟩) hS
                                · skip
                                  have f154 := i_nle c154
                                  have hj150_L6_154l : iv j150_L6 0 59 := iv_ltl hj150_L6 hq86_1564 (Int32.not_le.mp c154) (by decide)
                                  have hx5_154r : iv x5 1 60 := iv_ltr hj150_L6_154l hq86_1564 (Int32.not_le.mp c154) (by decide)
                                  refine lv_aload_n hx hb dX10_paste_157 rfl (lv_at hl 0 rfl) ?_
                                  refine ti_getr hx hb hts inlX10 hown hK hT ha0 rfl rfl rfl 36 (by decide) (hts _ kw_153) (fun _ h9 => h9) rfl dX10_paste_158 (fun v158 hv158 hm158 => ?_)
                                  refine lv_bipush (v := 60) hx hb dX10_paste_161 (by decide) ?_
                                  refine lv_iload_n hx hb dX10_paste_163 rfl (lv_at hl 3 rfl) ?_
                                  refine lv_imul hx hb dX10_paste_164 ?_
                                  refine lv_topi (fun v164 e164 => ?_)
                                  have hv164 : iv v164 0 180 := by rw [e164]; exact iv_mul (iv_c (x := (60 : Int32)) (k := 60) (by decide)) hx3_11p (by decide)
                                  have kl60 : (60 : Int32).toInt = 60 := by decide
                                  have s164 : v164.toInt = (60 : Int32).toInt * x3.toInt := by rw [e164]; exact iv_mulE (iv_c (x := (60 : Int32)) (k := 60) (by decide)) hx3_11p (by decide)
                                  have s164 : v164.toInt = 60 * x3.toInt := by rw [s164]; simp only [show (60 : Int32).toInt = 60 from by decide]; try omega
                                  refine lv_iload hx hb dX10_paste_165 (lv_at hl 4 rfl) ?_
                                  refine lv_iadd hx hb dX10_paste_167 ?_
                                  refine lv_topi (fun v167 e167 => ?_)
                                  have hv167 : iv v167 0 240 := by rw [e167]; exact iv_w (iv_add hv164 hq104_1566 (by decide)) (by decide)
                                  have s167 : v167.toInt = v164.toInt + x4.toInt := by rw [e167]; exact iv_addE hv164 hq104_1566 (by decide)
                                  refine lv_iload hx hb dX10_paste_168 (lv_at hl 6 rfl) ?_
                                  refine lv_iadd hx hb dX10_paste_170 ?_
                                  refine lv_topi (fun v170 e170 => ?_)
                                  have hv170 : iv v170 0 299 := by rw [e170]; exact iv_w (iv_add hv167 hj150_L6_154l (by decide)) (by decide)
                                  have s170 : v170.toInt = v167.toInt + j150_L6.toInt := by rw [e170]; exact iv_addE hv167 hj150_L6_154l (by decide)
                                  refine lv_aload_n hx hb dX10_paste_171 rfl (lv_at hl 0 rfl) ?_
                                  refine ti_getr hx hb hts inlX10 hown hK hT ha0 rfl rfl rfl 37 (by decide) (hts _ kw_154) (fun _ h9 => h9) rfl dX10_paste_172 (fun v172 hv172 hm172 => ?_)
                                  refine lv_iload hx hb dX10_paste_175 (lv_at hl 6 rfl) ?_
                                  refine ti_lald hx hb (aT3 hK) hT hv172 rfl hj150_L6_154l (by decide) (fun _ _ _ => rfl) dX10_paste_177 (fun v177 hm177 => ?_)
                                  have hr178_1567 : iv v170 0 239 := by have b0a := (hq86_1563).1; have b0b := (hq86_1563).2; have b1a := (hx3_11p).1; have b1b := (hx3_11p).2; have b2a := (hq104_1566).1; have b2b := (hq104_1566).2; have b3a := (hx5_154r).1; have b3b := (hx5_154r).2; have b4a := (hv22_24l).1; have b4b := (hv22_24l).2; have b5a := (hv32_34l).1; have b5b := (hv32_34l).2; have b6a := (hv73).1; have b6b := (hv73).2; have b7a := (hv76).1; have b7b := (hv76).2; have b8a := (hv77_86a).1; have b8b := (hv77_86a).2; have b9a := (hq83_1562).1; have b9b := (hq83_1562).2; have b10a := (hv84).1; have b10b := (hv84).2; have b11a := (hv91).1; have b11b := (hv91).2; have b12a := (hv94).1; have b12b := (hv94).2; have b13a := (hv95_104a).1; have b13b := (hv95_104a).2; have b14a := (hq101_1565).1; have b14b := (hq101_1565).2; have b15a := (hv102).1; have b15b := (hv102).2; have b16a := (hj113_L6).1; have b16b := (hj113_L6).2; have b17a := (hj150_L6_154l).1; have b17b := (hj150_L6_154l).2; have b18a := (hv164).1; have b18b := (hv164).2; have b19a := (hv167).1; have b19b := (hv167).2; have b20a := (hv170).1; have b20b := (hv170).2; exact ⟨by omega, by omega⟩
                                  refine ti_last hx hb (aT3 hK) hT hS hv158 rfl rfl hr178_1567 (by decide) (fun _ _ _ => rfl)  (fun _ _ => trivial) dX10_paste_178 (fun H locs hT hS oq178 he178 hk178 => ?_)
                                  obtain ⟨v179, e179⟩ : ∃ y : Int32, y = j150_L6 + 1 := ⟨_, rfl⟩
                                  have hv179 : iv v179 1 60 := by rw [e179]; exact iv_w (iv_add hj150_L6_154l (iv_c (x := (1 : Int32)) (k := 1) (by decide)) (by decide)) (by decide)
                                  have s179 : v179.toInt = j150_L6.toInt + 1 := by rw [e179, iv_addE hj150_L6_154l (iv_c (x := (1 : Int32)) (k := 1) (by decide)) (by decide)]; rfl
                                  refine lv_iinc (v := v179) (lv' := [(6, .int v179), (0, .ref a0), (1, .int x1), (2, .int x2), (3, .int x3), (4, .int x4), (5, .int x5)]) hx hb dX10_paste_179 hl (k := 6) rfl (by rw [e179]; rfl) (by decide) rfl (fun ls hl => ?_)
                                  refine lv_goto (tgt := 150) hx hb dX10_paste_182 (by decide) ?_
                                  exact ih150 v179 _ _ _ (ms_up hms150 (by have := s179; omega) (iv_w (c := 1) (d := 60) hv179 (by decide)).2) (iv_w hv179 (by decide)) hT hS (lv_sub hl [1, 2, 3, 4, 5, 6, 0] rfl)
                            refine lv_istore (lv' := [(6, .int (0 : Int32)), (0, .ref a0), (1, .int x1), (2, .int x2), (3, .int x3), (4, .int x4), (5, .int x5)]) hx hb dX10_paste_148 hl (by decide) rfl (fun ls hl => ?_)
                            exact J150 _ (0 : Int32) _ _ _ (Nat.lt_succ_self _) (iv_w (iv_c (x := (0 : Int32)) (k := 0) (by decide)) (by decide)) hT hS (lv_sub hl [1, 2, 3, 4, 5, 6, 0] rfl)
                          · skip
                            have f117 := i_nle c117
                            have hj113_L6_117l : iv j113_L6 0 59 := iv_ltl hj113_L6 hq86_1564 (Int32.not_le.mp c117) (by decide)
                            have hx5_117r : iv x5 1 60 := iv_ltr hj113_L6_117l hq86_1564 (Int32.not_le.mp c117) (by decide)
                            refine lv_aload_n hx hb dX10_paste_120 rfl (lv_at hl 0 rfl) ?_
                            refine ti_getr hx hb hts inlX10 hown hK hT ha0 rfl rfl rfl 37 (by decide) (hts _ kw_154) (fun _ h9 => h9) rfl dX10_paste_121 (fun v121 hv121 hm121 => ?_)
                            refine lv_iload hx hb dX10_paste_124 (lv_at hl 6 rfl) ?_
                            refine lv_aload_n hx hb dX10_paste_126 rfl (lv_at hl 0 rfl) ?_
                            refine ti_getr hx hb hts inlX10 hown hK hT ha0 rfl rfl rfl 36 (by decide) (hts _ kw_153) (fun _ h9 => h9) rfl dX10_paste_127 (fun v127 hv127 hm127 => ?_)
                            refine lv_bipush (v := 60) hx hb dX10_paste_130 (by decide) ?_
                            refine lv_iload_n hx hb dX10_paste_132 rfl (lv_at hl 1 rfl) ?_
                            refine lv_imul hx hb dX10_paste_133 ?_
                            refine lv_topi (fun v133 e133 => ?_)
                            have hv133 : iv v133 0 180 := by rw [e133]; exact iv_mul (iv_c (x := (60 : Int32)) (k := 60) (by decide)) hx1_4p (by decide)
                            have kl60 : (60 : Int32).toInt = 60 := by decide
                            have s133 : v133.toInt = (60 : Int32).toInt * x1.toInt := by rw [e133]; exact iv_mulE (iv_c (x := (60 : Int32)) (k := 60) (by decide)) hx1_4p (by decide)
                            have s133 : v133.toInt = 60 * x1.toInt := by rw [s133]; simp only [show (60 : Int32).toInt = 60 from by decide]; try omega
                            refine lv_iload_n hx hb dX10_paste_134 rfl (lv_at hl 2 rfl) ?_
                            refine lv_iadd hx hb dX10_paste_135 ?_
                            refine lv_topi (fun v135 e135 => ?_)
                            have hv135 : iv v135 0 240 := by rw [e135]; exact iv_w (iv_add hv133 hq86_1563 (by decide)) (by decide)
                            have s135 : v135.toInt = v133.toInt + x2.toInt := by rw [e135]; exact iv_addE hv133 hq86_1563 (by decide)
                            refine lv_iload hx hb dX10_paste_136 (lv_at hl 6 rfl) ?_
                            refine lv_iadd hx hb dX10_paste_138 ?_
                            refine lv_topi (fun v138 e138 => ?_)
                            have hv138 : iv v138 0 299 := by rw [e138]; exact iv_w (iv_add hv135 hj113_L6_117l (by decide)) (by decide)
                            have s138 : v138.toInt = v135.toInt + j113_L6.toInt := by rw [e138]; exact iv_addE hv135 hj113_L6_117l (by decide)
                            have hr139_1568 : iv v138 0 239 := by have b0a := (hx1_4p).1; have b0b := (hx1_4p).2; have b1a := (hq86_1563).1; have b1b := (hq86_1563).2; have b2a := (hq104_1566).1; have b2b := (hq104_1566).2; have b3a := (hx5_117r).1; have b3b := (hx5_117r).2; have b4a := (hv22_24l).1; have b4b := (hv22_24l).2; have b5a := (hv32_34l).1; have b5b := (hv32_34l).2; have b6a := (hv73).1; have b6b := (hv73).2; have b7a := (hv76).1; have b7b := (hv76).2; have b8a := (hv77_86a).1; have b8b := (hv77_86a).2; have b9a := (hq83_1562).1; have b9b := (hq83_1562).2; have b10a := (hv84).1; have b10b := (hv84).2; have b11a := (hv91).1; have b11b := (hv91).2; have b12a := (hv94).1; have b12b := (hv94).2; have b13a := (hv95_104a).1; have b13b := (hv95_104a).2; have b14a := (hq101_1565).1; have b14b := (hq101_1565).2; have b15a := (hv102).1; have b15b := (hv102).2; have b16a := (hj113_L6_117l).1; have b16b := (hj113_L6_117l).2; have b17a := (hv133).1; have b17b := (hv133).2; have b18a := (hv135).1; have b18b := (hv135).2; have b19a := (hv138).1; have b19b := (hv138).2; exact ⟨by omega, by omega⟩
                            refine ti_lald hx hb (aT3 hK) hT hv127 rfl hr139_1568 (by decide) (fun _ _ _ => rfl) dX10_paste_139 (fun v139 hm139 => ?_)
                            refine ti_last hx hb (aT3 hK) hT hS hv121 rfl rfl hj113_L6_117l (by decide) (fun _ _ _ => rfl)  (fun _ _ => trivial) dX10_paste_140 (fun H locs hT hS oq140 he140 hk140 => ?_)
                            obtain ⟨v141, e141⟩ : ∃ y : Int32, y = j113_L6 + 1 := ⟨_, rfl⟩
                            have hv141 : iv v141 1 60 := by rw [e141]; exact iv_w (iv_add hj113_L6_117l (iv_c (x := (1 : Int32)) (k := 1) (by decide)) (by decide)) (by decide)
                            have s141 : v141.toInt = j113_L6.toInt + 1 := by rw [e141, iv_addE hj113_L6_117l (iv_c (x := (1 : Int32)) (k := 1) (by decide)) (by decide)]; rfl
                            refine lv_iinc (v := v141) (lv' := [(6, .int v141), (0, .ref a0), (1, .int x1), (2, .int x2), (3, .int x3), (4, .int x4), (5, .int x5)]) hx hb dX10_paste_141 hl (k := 6) rfl (by rw [e141]; rfl) (by decide) rfl (fun ls hl => ?_)
                            refine lv_goto (tgt := 113) hx hb dX10_paste_144 (by decide) ?_
                            exact ih113 v141 _ _ _ (ms_up hms113 (by have := s141; omega) (iv_w (c := 1) (d := 60) hv141 (by decide)).2) (iv_w hv141 (by decide)) hT hS (lv_sub hl [1, 2, 3, 4, 5, 6, 0] rfl)
                      refine lv_istore (lv' := [(6, .int (0 : Int32)), (0, .ref a0), (1, .int x1), (2, .int x2), (3, .int x3), (4, .int x4), (5, .int x5)]) hx hb dX10_paste_111 hl (by decide) rfl (fun ls hl => ?_)
                      exact J113 _ (0 : Int32) _ _ _ (Nat.lt_succ_self _) (iv_w (iv_c (x := (0 : Int32)) (k := 0) (by decide)) (by decide)) hT hS (lv_sub hl [1, 2, 3, 4, 5, 6, 0] rfl)
                    · skip
                      have f104 := jc_nle c104
                      have hv95_104a : jv v95 1 2147483707 := by have b0a := (hv95).1; have b0b := (hv95).2; have b1a := (hv102).1; have b1b := (hv102).2; exact ⟨by omega, by omega⟩
                      refine lv_bipush (v := (-7)) hx hb dX10_paste_107 (by decide) ?_
                      exact ret _ _ _ _ _ dX10_paste_109 (⟨hT, iv_w (iv_c (x := (-7 : Int32)) (k := (-7)) (by decide)) (by decide)⟩) hS
          · skip
            have f52 := i_ne c52
            refine lv_bipush (v := (-8)) hx hb dX10_paste_55 (by decide) ?_
            exact ret _ _ _ _ _ dX10_paste_57 (⟨hT, iv_w (iv_c (x := (-8 : Int32)) (k := (-8)) (by decide)) (by decide)⟩) hS
        · skip
          have f34 := i_eq c34
          have hv32_34l : iv v32 (-1) (-1) := iv_eql hv32 (iv_c (x := (-1 : Int32)) (k := (-1)) (by decide)) c34 (by decide)
          refine lv_bipush (v := (-6)) hx hb dX10_paste_37 (by decide) ?_
          exact ret _ _ _ _ _ dX10_paste_39 (⟨hT, iv_w (iv_c (x := (-6 : Int32)) (k := (-6)) (by decide)) (by decide)⟩) hS
    · skip
      have f11 := i_eq c11
      have hv8_11l : iv v8 0 0 := iv_eql hv8 (iv_c (x := (0 : Int32)) (k := 0) (by decide)) c11 (by decide)
      refine lv_bipush (v := (-2)) hx hb dX10_paste_14 (by decide) ?_
      exact ret _ _ _ _ _ dX10_paste_16 (⟨hT, iv_w (iv_c (x := (-2 : Int32)) (k := (-2)) (by decide)) (by decide)⟩) hS
