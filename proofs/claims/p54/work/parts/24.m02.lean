set_option maxHeartbeats 4000000 in
set_option maxRecDepth 100000 in
theorem t_X10_judge (l : Launch) {D : va_G} {c0 : Nat → ClassId} {Y : Nat → Option Nat} {ν : Nat → Nat} {H : Heap} (hT : TI D vwCl (tysOf c0) (RTg ν) Y H) {a0 : Nat} (ha0 : Y a0 = some 10) {x1 : Int32} (hx1 : iv x1 (-2147483648) 2147483647) (hν3 : ν 3 = 0) (hν5 : ν 5 = 0) (hνb : ∀ j, j < 4 → ν (6 + j) ≤ 61) (hU : uq Y) : Met l yX10_judge (wz yX10_judge cX10_judge 5 (some .int)) { frames := 4, cells := 0, slots := 0, locals := 108 } (TP D vwCl (tysOf c0) H [.ref a0, .int x1]) (TQi (fun x H' => TI D vwCl (tysOf c0) (RTg ν) Y H' ∧ iv x (-6) 12) Y [10, 30, 41, 42]) 0 0 (pW Y [10, 30, 41, 42]) := by
  refine Met.ofW (cc := cX10_judge) (maxL := 5) (ret := (some .int)) (by decide) rfl ?_
  intro p e s m args below meth c s₁ B hml hv
  obtain ⟨rfl, rfl, hK⟩ := hv
  have hx := B.exec
  have hb := B.bytes
  have hr := B.returns
  have hts : ∀ w ∈ wq, w.before _ s = true := fun w h => atoms_spec (ws := wz yX10_judge cX10_judge 5 (some .int)) B.pre w (List.mem_cons_of_mem _ h)
  have hown : s.vm.findClass RX10 = some m.cls := findClass_of_methodNamed B.named
  have hlocks := B.notSynchronized
  obtain ⟨R, hR⟩ : ∃ R : Room, R = ({ frames := 4, cells := 0, slots := 0, locals := 108 } : Room) := ⟨_, rfl⟩
  rw [show (headSpec (wz yX10_judge cX10_judge 5 (some .int)) { frames := 4, cells := 0, slots := 0, locals := 108 }).room = R from hR.symm]
  refine ti_mi hx hb hr hlocks (fun Q ret => ?_)
  have hl := lv_entry [.ref a0, .int x1] (n := 5) (Nat.le_of_ble_eq_true rfl)
  rw [lg_entry_eq]
  generalize (lg_sl [.ref a0, .int x1] ++ List.replicate (5 - (lg_sl [.ref a0, .int x1]).length) Slot.unset).toArray = ls at hl ⊢
  have hl : lv_has ls 5 [(0, .ref a0), (1, .int x1)] := hl
  refine ti_gen (P := fun H => TI D vwCl (tysOf c0) (RTg ν) Y H) (Y := Y) (ws := [10, 30, 41, 42]) hT (fun H locs hT hS => ?_)
  refine lv_iload_n hx hb dX10_judge_0 rfl (lv_at hl 1 rfl) ?_
  refine ti_calli (va_runS (As := [.int x1]) (rest := []) ⟨hx, hb, hml, hown, hts⟩ (t_X10_isSlot l hT (iv_w hx1 (by decide))) (cwS 1 hts (good_S kw_816 kw_817 kw_5 kw_818) rfl rfl rfl (by decide +kernel) ⟨by rw [hR]; decide, by rw [hR]; decide⟩) (ti_preS hK) rfl rfl hl.1 rfl (lv_room (Nat.le_of_ble_eq_true rfl)) dX10_judge_1 ⟨Nat.zero_le _, Nat.zero_le _⟩) hS (pW_sub rfl) (fun v1 H1 locs hB hS _ hk1 => ?_)
  obtain ⟨hH, hv1, hp1⟩ := hB
  rw [hH] at hS ⊢
  refine lv_if_ne (tgt := 10) hx hb dX10_judge_4 (by decide) (fun c4 => ?_) (fun c4 => ?_)
  · skip
    have kl0 : (0 : Int32).toInt = 0 := by decide
    have f4 := i_ne c4
    have hv1_4l : iv v1 1 1 := iv_nel hv1 (iv_c (x := (0 : Int32)) (k := 0) (by decide)) c4 (by decide)
    have hx1_4p : iv x1 0 3 := by have b0a := (hx1).1; have b0b := (hx1).2; exact ⟨by omega, by omega⟩
    refine lv_aload_n hx hb dX10_judge_10 rfl (lv_at hl 0 rfl) ?_
    refine ti_getr hx hb hts inlX10 hown hK hT ha0 rfl rfl rfl 34 (by decide) (hts _ kw_151) (fun _ h9 => h9) rfl dX10_judge_11 (fun v11 hv11 hm11 => ?_)
    refine lv_iload_n hx hb dX10_judge_14 rfl (lv_at hl 1 rfl) ?_
    refine ti_ialdD hx hb (aT0 hK) hT hv11 rfl hx1_4p (by decide) (fun j => ⟨_, _, rfl⟩) dX10_judge_15 (fun v15 hz15 _ => ?_)
    have s15 : v15.toInt = (ν (6 + x1.toNatClampNeg) : Int) - 1 := many_e hz15
    have hv15 : iv v15 (-1) 60 := many_iv hνb s15 hx1_4p (by decide)
    refine lv_iconst (v := (-1)) hx hb dX10_judge_16 (by decide) ?_
    refine lv_icmp_ne (tgt := 23) hx hb dX10_judge_17 (by decide) (fun c17 => ?_) (fun c17 => ?_)
    · skip
      have klm1 : (-1 : Int32).toInt = (-1) := by decide
      have f17 := i_ne c17
      have hv15_17l : iv v15 0 60 := iv_nel hv15 (iv_c (x := (-1 : Int32)) (k := (-1)) (by decide)) c17 (by decide)
      refine lv_aload_n hx hb dX10_judge_23 rfl (lv_at hl 0 rfl) ?_
      refine ti_callv (va_runV (As := []) (rest := []) ⟨hx, hb, hml, hown, hts⟩ (t_X10_thinks l hT ha0 hν3 hν5 hU) (cwV 0 hts (good_V kw_819 kw_820 kw_821 kw_5 kw_822) rfl rfl rfl (by decide +kernel) ⟨by rw [hR]; decide, by rw [hR]; decide⟩) (ti_preV hK hT ha0 rfl rfl) rfl rfl hl.1 rfl (lv_room (Nat.le_of_ble_eq_true rfl)) dX10_judge_24 ⟨Nat.zero_le _, Nat.zero_le _⟩) hS (pW_sub rfl) (fun H locs hB hS _ hk24 => ?_)
      have hT := hB
      refine lv_iconst (v := 0) hx hb dX10_judge_27 (by decide) ?_
      refine lv_istore_n (lv' := [(2, .int (0 : Int32)), (0, .ref a0), (1, .int x1)]) hx hb dX10_judge_28 rfl hl (by decide) rfl (fun ls hl => ?_)
      refine lv_iconst (v := 1) hx hb dX10_judge_29 (by decide) ?_
      have J31 : ∀ (n : Nat) (j31_L2 : Int32) (j31_L3 : Int32) (H : Heap) (locs : List Loc) (ls : Array Slot), (13 - j31_L2.toInt + j31_L3.toInt).toNat < n → iv j31_L2 0 12 → iv j31_L3 0 1 → TI D vwCl (tysOf c0) (RTg (νt ν)) Y H → va_S (pW Y [10, 30, 41, 42]) s.heap H locs → lv_has ls 5 [(0, .ref a0), (1, .int x1), (2, .int j31_L2), (3, .int j31_L3)] → W p l e R s m ([.ref a0, .int x1] : List Value).toArray below meth c H locs 0 0 Q (F0 m 31 ls []) := by
        intro n
        induction n with
        | zero => intro j31_L2 j31_L3 H locs ls hms; exact absurd hms (Nat.not_lt_zero _)
        | succ n ih31 =>
          intro j31_L2 j31_L3 H locs ls hms31 hj31_L2 hj31_L3 hT hS hl
          refine lv_iload_n hx hb dX10_judge_31 rfl (lv_at hl 3 rfl) ?_
          have J234 : ∀  (H : Heap) (locs : List Loc) (ls : Array Slot), TI D vwCl (tysOf c0) (RTg (νt ν)) Y H → va_S (pW Y [10, 30, 41, 42]) s.heap H locs → lv_has ls 5 [(0, .ref a0), (1, .int x1), (2, .int j31_L2), (3, .int j31_L3)] → W p l e R s m ([.ref a0, .int x1] : List Value).toArray below meth c H locs 0 0 Q (F0 m 234 ls []) := by
            intro  H locs ls  hT hS hl
            refine lv_aload_n hx hb dX10_judge_234 rfl (lv_at hl 0 rfl) ?_
            refine ti_callv (va_runV (As := []) (rest := []) ⟨hx, hb, hml, hown, hts⟩ (t_X10_wakes l hT ha0 rfl rfl hU) (cwV 0 hts (good_V kw_824 kw_825 kw_826 kw_5 kw_827) rfl rfl rfl (by decide +kernel) ⟨by rw [hR]; decide, by rw [hR]; decide⟩) (ti_preV hK hT ha0 rfl rfl) rfl rfl hl.1 rfl (lv_room (Nat.le_of_ble_eq_true rfl)) dX10_judge_235 ⟨Nat.zero_le _, Nat.zero_le _⟩) hS (pW_sub rfl) (fun H locs hB hS _ hk235 => ?_)
            have hT := hB
            rw [nu_back hν3 hν5] at hT
            refine lv_iload_n hx hb dX10_judge_238 rfl (lv_at hl 2 rfl) ?_
            exact ret _ _ _ _ _ dX10_judge_239 (⟨hT, iv_w hj31_L2 (by decide)⟩) hS
          refine lv_if_eq (tgt := 234) hx hb dX10_judge_32 (by decide) (fun c32 => ?_) (fun c32 => ?_)
          · skip
            have f32 := i_eq c32
            have hj31_L3_32l : iv j31_L3 0 0 := iv_eql hj31_L3 (iv_c (x := (0 : Int32)) (k := 0) (by decide)) c32 (by decide)
            exact J234  _ _ _   hT hS (lv_sub hl [0, 1, 2, 3] rfl)
          · skip
            have f32 := i_ne c32
            have hj31_L3_32l : iv j31_L3 1 1 := iv_nel hj31_L3 (iv_c (x := (0 : Int32)) (k := 0) (by decide)) c32 (by decide)
            refine lv_iconst (v := 5) hx hb dX10_judge_35 (by decide) ?_
            refine lv_iload_n hx hb dX10_judge_36 rfl (lv_at hl 2 rfl) ?_
            refine lv_imul hx hb dX10_judge_37 ?_
            refine lv_topi (fun v37 e37 => ?_)
            have hv37 : iv v37 0 60 := by rw [e37]; exact iv_mul (iv_c (x := (5 : Int32)) (k := 5) (by decide)) hj31_L2 (by decide)
            have kl5 : (5 : Int32).toInt = 5 := by decide
            have s37 : v37.toInt = (5 : Int32).toInt * j31_L2.toInt := by rw [e37]; exact iv_mulE (iv_c (x := (5 : Int32)) (k := 5) (by decide)) hj31_L2 (by decide)
            have s37 : v37.toInt = 5 * j31_L2.toInt := by rw [s37]; simp only [show (5 : Int32).toInt = 5 from by decide]; try omega
            refine lv_iconst (v := 5) hx hb dX10_judge_38 (by decide) ?_
            refine lv_iadd hx hb dX10_judge_39 ?_
            refine lv_topi (fun v39 e39 => ?_)
            have hv39 : iv v39 5 65 := by rw [e39]; exact iv_w (iv_add hv37 (iv_c (x := (5 : Int32)) (k := 5) (by decide)) (by decide)) (by decide)
            have s39 : v39.toInt = v37.toInt + 5 := by rw [e39, iv_addE hv37 (iv_c (x := (5 : Int32)) (k := 5) (by decide)) (by decide)]; rfl
            refine lv_aload_n hx hb dX10_judge_40 rfl (lv_at hl 0 rfl) ?_
            refine ti_getr hx hb hts inlX10 hown hK hT ha0 rfl rfl rfl 34 (by decide) (hts _ kw_151) (fun _ h9 => h9) rfl dX10_judge_41 (fun v41 hv41 hm41 => ?_)
            obtain rfl : v11 = v41 := hU 37 v11 v41 (by decide) hv11 hv41
            refine lv_iload_n hx hb dX10_judge_44 rfl (lv_at hl 1 rfl) ?_
            refine ti_ialdD hx hb (aT0 hK) hT hv11 rfl hx1_4p (by decide) (fun j => ⟨_, _, rfl⟩) dX10_judge_45 (fun v45 hz45 _ => ?_)
            have s45 : v45.toInt = (ν (6 + x1.toNatClampNeg) : Int) - 1 := by have z := many_e hz45; rw [nut6] at z; exact z
            have hv45 : iv v45 (-1) 60 := many_iv hνb s45 hx1_4p (by decide)
            have hq45_64 : iv v45 0 60 := by have b0a := (hv15_17l).1; have b0b := (hv15_17l).2; have b1a := (hv45).1; have b1b := (hv45).2; exact ⟨by omega, by omega⟩
            refine lv_icmp_gt (tgt := 234) hx hb dX10_judge_46 (by decide) (fun c46 => ?_) (fun c46 => ?_)
            · skip
              have f46 := i_lt c46
              exact J234  _ _ _   hT hS (lv_sub hl [0, 1, 2, 3] rfl)
            · skip
              have f46 := i_nlt c46
              have hv39_46l : iv v39 5 60 := iv_lel hv39 hq45_64 (Int32.not_lt.mp c46) (by decide)
              have hv45_46r : iv v45 5 60 := iv_ler hv39_46l hq45_64 (Int32.not_lt.mp c46) (by decide)
              have hq46_65 : iv j31_L2 0 11 := by have b0a := (hv39_46l).1; have b0b := (hv39_46l).2; have b1a := (hj31_L2).1; have b1b := (hj31_L2).2; exact ⟨by omega, by omega⟩
              refine lv_iconst (v := 0) hx hb dX10_judge_49 (by decide) ?_
              have J52 : ∀ (n : Nat) (j52_L3 : Int32) (j52_L4 : Int32) (H : Heap) (locs : List Loc) (ls : Array Slot), (5 - j52_L4.toInt).toNat < n → iv j52_L3 0 1 → iv j52_L4 0 5 → TI D vwCl (tysOf c0) (RTg (νt ν)) Y H → va_S (pW Y [10, 30, 41, 42]) s.heap H locs → lv_has ls 5 [(0, .ref a0), (1, .int x1), (2, .int j31_L2), (3, .int j52_L3), (4, .int j52_L4)] → W p l e R s m ([.ref a0, .int x1] : List Value).toArray below meth c H locs 0 0 Q (F0 m 52 ls []) := by
                intro n
                induction n with
                | zero => intro j52_L3 j52_L4 H locs ls hms; exact absurd hms (Nat.not_lt_zero _)
                | succ n ih52 =>
                  intro j52_L3 j52_L4 H locs ls hms52 hj52_L3 hj52_L4 hT hS hl
                  refine lv_iload hx hb dX10_judge_52 (lv_at hl 4 rfl) ?_
                  refine lv_iconst (v := 5) hx hb dX10_judge_54 (by decide) ?_
                  have J94 : ∀  (H : Heap) (locs : List Loc) (ls : Array Slot), TI D vwCl (tysOf c0) (RTg (νt ν)) Y H → va_S (pW Y [10, 30, 41, 42]) s.heap H locs → lv_has ls 5 [(0, .ref a0), (1, .int x1), (2, .int j31_L2), (3, .int j52_L3), (4, .int j52_L4)] → W p l e R s m ([.ref a0, .int x1] : List Value).toArray below meth c H locs 0 0 Q (F0 m 94 ls []) := by
                    intro  H locs ls  hT hS hl
                    refine lv_bipush (v := 60) hx hb dX10_judge_94 (by decide) ?_
                    refine lv_iload_n hx hb dX10_judge_96 rfl (lv_at hl 1 rfl) ?_
                    refine lv_imul hx hb dX10_judge_97 ?_
                    refine lv_topi (fun v97 e97 => ?_)
                    have hv97 : iv v97 0 180 := by rw [e97]; exact iv_mul (iv_c (x := (60 : Int32)) (k := 60) (by decide)) hx1_4p (by decide)
                    have kl60 : (60 : Int32).toInt = 60 := by decide
                    have s97 : v97.toInt = (60 : Int32).toInt * x1.toInt := by rw [e97]; exact iv_mulE (iv_c (x := (60 : Int32)) (k := 60) (by decide)) hx1_4p (by decide)
                    have s97 : v97.toInt = 60 * x1.toInt := by rw [s97]; simp only [show (60 : Int32).toInt = 60 from by decide]; try omega
                    refine lv_iconst (v := 5) hx hb dX10_judge_98 (by decide) ?_
                    refine lv_iload_n hx hb dX10_judge_99 rfl (lv_at hl 2 rfl) ?_
                    refine lv_imul hx hb dX10_judge_100 ?_
                    refine lv_topi (fun v100 e100 => ?_)
                    have hv100 : iv v100 0 55 := by rw [e100]; exact iv_mul (iv_c (x := (5 : Int32)) (k := 5) (by decide)) hq46_65 (by decide)
                    have s100 : v100.toInt = (5 : Int32).toInt * j31_L2.toInt := by rw [e100]; exact iv_mulE (iv_c (x := (5 : Int32)) (k := 5) (by decide)) hq46_65 (by decide)
                    have s100 : v100.toInt = 5 * j31_L2.toInt := by rw [s100]; simp only [show (5 : Int32).toInt = 5 from by decide]; try omega
                    refine lv_iadd hx hb dX10_judge_101 ?_
                    refine lv_topi (fun v101 e101 => ?_)
                    have hv101 : iv v101 0 235 := by rw [e101]; exact iv_w (iv_add hv97 hv100 (by decide)) (by decide)
                    have s101 : v101.toInt = v97.toInt + v100.toInt := by rw [e101]; exact iv_addE hv97 hv100 (by decide)
                    refine lv_istore (lv' := [(4, .int v101), (0, .ref a0), (1, .int x1), (2, .int j31_L2), (3, .int j52_L3)]) hx hb dX10_judge_102 hl (by decide) rfl (fun ls hl => ?_)
                    refine lv_iload_n hx hb dX10_judge_104 rfl (lv_at hl 4 rfl) ?_
                    have J168 : ∀ (j168_S0 : Int32) (H : Heap) (locs : List Loc) (ls : Array Slot), iv j168_S0 0 1 → (1 ≤ j168_S0.toInt → ∃ y0 y3 y4 : Int64, (∀ q, Y q = some 39 → am q v101.toNatClampNeg (.long y0) H ∧ am q (v101.toNatClampNeg + 3) (.long y3) H ∧ am q (v101.toNatClampNeg + 4) (.long y4) H) ∧ iv y0.toInt32 0 7 ∧ iv y4.toInt32 (-1) 7 ∧ (1 ≤ y3.toInt32.toInt → 0 ≤ y4.toInt32.toInt)) → TI D vwCl (tysOf c0) (RTg (νt ν)) Y H → va_S (pW Y [10, 30, 41, 42]) s.heap H locs → lv_has ls 5 [(0, .ref a0), (1, .int x1), (2, .int j31_L2), (3, .int j52_L3), (4, .int v101)] → W p l e R s m ([.ref a0, .int x1] : List Value).toArray below meth c H locs 0 0 Q (F0 m 168 ls [.int j168_S0]) := by
                      intro j168_S0 H locs ls hj168_S0 hX168_0 hT hS hl
                      refine lv_istore_n (lv' := [(3, .int j168_S0), (0, .ref a0), (1, .int x1), (2, .int j31_L2), (4, .int v101)]) hx hb dX10_judge_168 rfl hl (by decide) rfl (fun ls hl => ?_)
                      refine lv_iload_n hx hb dX10_judge_169 rfl (lv_at hl 0 rfl) ?_
                      refine lv_if_ne (tgt := 176) hx hb dX10_judge_170 (by decide) (fun c170 => ?_) (fun c170 => ?_)
                      · skip
                        have f170 := i_ne c170
                        have hj168_S0_170l : iv j168_S0 1 1 := iv_nel hj168_S0 (iv_c (x := (0 : Int32)) (k := 0) (by decide)) c170 (by decide)
                        refine lv_aload_n hx hb dX10_judge_176 rfl (lv_at hl 1 rfl) ?_
                        refine lv_aload_n hx hb dX10_judge_177 rfl (lv_at hl 1 rfl) ?_
                        refine ti_getr hx hb hts inlX10 hown hK hT ha0 rfl rfl rfl 36 (by decide) (hts _ kw_153) (fun _ h9 => h9) rfl dX10_judge_178 (fun v178 hv178 hm178 => ?_)
                        refine lv_iload hx hb dX10_judge_181 (lv_at hl 4 rfl) ?_
                        refine ti_lald hx hb (aT3 hK) hT hv178 rfl hv101 (by decide) (fun _ _ _ => rfl) dX10_judge_183 (fun v183 hm183 => ?_)
                        refine lv_l2i hx hb dX10_judge_184 rfl ?_
                        refine lv_topi (fun v184 e184 => ?_)
                        have hv184 : iv v184 (-2147483648) 2147483647 := iv_top _
                        refine lv_aload_n hx hb dX10_judge_185 rfl (lv_at hl 1 rfl) ?_
                        refine ti_getE (ci := 10) (v := .ref v178) hx hb hts inlX10 hown hK hm178 rfl (by decide) (hts _ kw_153) (fun _ h9 => h9) dX10_judge_186 ?_
                        refine lv_iload hx hb dX10_judge_189 (lv_at hl 4 rfl) ?_
                        refine lv_iconst (v := 1) hx hb dX10_judge_191 (by decide) ?_
                        refine lv_iadd hx hb dX10_judge_192 ?_
                        refine lv_topi (fun v192 e192 => ?_)
                        have hv192 : iv v192 1 236 := by rw [e192]; exact iv_w (iv_add hv101 (iv_c (x := (1 : Int32)) (k := 1) (by decide)) (by decide)) (by decide)
                        have s192 : v192.toInt = v101.toInt + 1 := by rw [e192, iv_addE hv101 (iv_c (x := (1 : Int32)) (k := 1) (by decide)) (by decide)]; rfl
                        have kl1 : (1 : Int32).toInt = 1 := by decide
                        refine ti_lald hx hb (aT3 hK) hT hv178 rfl hv192 (by decide) (fun _ _ _ => rfl) dX10_judge_193 (fun v193 hm193 => ?_)
                        refine lv_l2i hx hb dX10_judge_194 rfl ?_
                        refine lv_topi (fun v194 e194 => ?_)
                        have hv194 : iv v194 (-2147483648) 2147483647 := iv_top _
                        refine lv_aload_n hx hb dX10_judge_195 rfl (lv_at hl 1 rfl) ?_
                        refine ti_getE (ci := 10) (v := .ref v178) hx hb hts inlX10 hown hK hm178 rfl (by decide) (hts _ kw_153) (fun _ h9 => h9) dX10_judge_196 ?_
                        refine lv_iload hx hb dX10_judge_199 (lv_at hl 4 rfl) ?_
                        refine lv_iconst (v := 2) hx hb dX10_judge_201 (by decide) ?_
                        refine lv_iadd hx hb dX10_judge_202 ?_
                        refine lv_topi (fun v202 e202 => ?_)
                        have hv202 : iv v202 2 237 := by rw [e202]; exact iv_w (iv_add hv101 (iv_c (x := (2 : Int32)) (k := 2) (by decide)) (by decide)) (by decide)
                        have s202 : v202.toInt = v101.toInt + 2 := by rw [e202, iv_addE hv101 (iv_c (x := (2 : Int32)) (k := 2) (by decide)) (by decide)]; rfl
                        have kl2 : (2 : Int32).toInt = 2 := by decide
                        refine ti_lald hx hb (aT3 hK) hT hv178 rfl hv202 (by decide) (fun _ _ _ => rfl) dX10_judge_203 (fun v203 hm203 => ?_)
                        refine lv_l2i hx hb dX10_judge_204 rfl ?_
                        refine lv_topi (fun v204 e204 => ?_)
                        have hv204 : iv v204 (-2147483648) 2147483647 := iv_top _
                        refine lv_aload_n hx hb dX10_judge_205 rfl (lv_at hl 1 rfl) ?_
                        refine ti_getE (ci := 10) (v := .ref v178) hx hb hts inlX10 hown hK hm178 rfl (by decide) (hts _ kw_153) (fun _ h9 => h9) dX10_judge_206 ?_
                        refine lv_iload hx hb dX10_judge_209 (lv_at hl 4 rfl) ?_
                        refine lv_iconst (v := 3) hx hb dX10_judge_211 (by decide) ?_
                        refine lv_iadd hx hb dX10_judge_212 ?_
                        refine lv_topi (fun v212 e212 => ?_)
                        have hv212 : iv v212 3 238 := by rw [e212]; exact iv_w (iv_add hv101 (iv_c (x := (3 : Int32)) (k := 3) (by decide)) (by decide)) (by decide)
                        have s212 : v212.toInt = v101.toInt + 3 := by rw [e212, iv_addE hv101 (iv_c (x := (3 : Int32)) (k := 3) (by decide)) (by decide)]; rfl
                        have kl3 : (3 : Int32).toInt = 3 := by decide
                        refine ti_lald hx hb (aT3 hK) hT hv178 rfl hv212 (by decide) (fun _ _ _ => rfl) dX10_judge_213 (fun v213 hm213 => ?_)
                        refine lv_l2i hx hb dX10_judge_214 rfl ?_
                        refine lv_topi (fun v214 e214 => ?_)
                        have hv214 : iv v214 (-2147483648) 2147483647 := iv_top _
                        refine lv_aload_n hx hb dX10_judge_215 rfl (lv_at hl 1 rfl) ?_
                        refine ti_getE (ci := 10) (v := .ref v178) hx hb hts inlX10 hown hK hm178 rfl (by decide) (hts _ kw_153) (fun _ h9 => h9) dX10_judge_216 ?_
                        refine lv_iload hx hb dX10_judge_219 (lv_at hl 4 rfl) ?_
                        refine lv_iconst (v := 4) hx hb dX10_judge_221 (by decide) ?_
                        refine lv_iadd hx hb dX10_judge_222 ?_
                        refine lv_topi (fun v222 e222 => ?_)
                        have hv222 : iv v222 4 239 := by rw [e222]; exact iv_w (iv_add hv101 (iv_c (x := (4 : Int32)) (k := 4) (by decide)) (by decide)) (by decide)
                        have s222 : v222.toInt = v101.toInt + 4 := by rw [e222, iv_addE hv101 (iv_c (x := (4 : Int32)) (k := 4) (by decide)) (by decide)]; rfl
                        have kl4 : (4 : Int32).toInt = 4 := by decide
                        refine ti_lald hx hb (aT3 hK) hT hv178 rfl hv222 (by decide) (fun _ _ _ => rfl) dX10_judge_223 (fun v223 hm223 => ?_)
                        refine lv_l2i hx hb dX10_judge_224 rfl ?_
                        refine lv_topi (fun v224 e224 => ?_)
                        have hv224 : iv v224 (-2147483648) 2147483647 := iv_top _
                        obtain ⟨y0, y3, y4, hy, i0, i4, i34⟩ := hX168_0 (by have b0a := (hx1_4p).1; have b0b := (hx1_4p).2; have b1a := (hv1_4l).1; have b1b := (hv1_4l).2; have b2a := (hv15_17l).1; have b2b := (hv15_17l).2; have b3a := (hq46_65).1; have b3b := (hq46_65).2; have b4a := (hj31_L3_32l).1; have b4b := (hj31_L3_32l).2; have b5a := (hv37).1; have b5b := (hv37).2; have b6a := (hv39_46l).1; have b6b := (hv39_46l).2; have b7a := (hv45_46r).1; have b7b := (hv45_46r).2; have b8a := (hj52_L3).1; have b8b := (hj52_L3).2; have b9a := (hj52_L4).1; have b9b := (hj52_L4).2; have b10a := (hv97).1; have b10b := (hv97).2; have b11a := (hv100).1; have b11b := (hv100).2; have b12a := (hv101).1; have b12b := (hv101).2; have b13a := (hj168_S0_170l).1; have b13b := (hj168_S0_170l).2; have b14a := ((jv_top v183)).1; have b14b := ((jv_top v183)).2; have b15a := (hv184).1; have b15b := (hv184).2; have b16a := (hv192).1; have b16b := (hv192).2; have b17a := ((jv_top v193)).1; have b17b := ((jv_top v193)).2; have b18a := (hv194).1; have b18b := (hv194).2; have b19a := (hv202).1; have b19b := (hv202).2; have b20a := ((jv_top v203)).1; have b20b := ((jv_top v203)).2; have b21a := (hv204).1; have b21b := (hv204).2; have b22a := (hv212).1; have b22b := (hv212).2; have b23a := ((jv_top v213)).1; have b23b := ((jv_top v213)).2; have b24a := (hv214).1; have b24b := (hv214).2; have b25a := (hv222).1; have b25b := (hv222).2; have b26a := ((jv_top v223)).1; have b26b := ((jv_top v223)).2; have b27a := (hv224).1; have b27b := (hv224).2; omega)
                        obtain ⟨q0, q3, q4⟩ := hy v178 hv178
                        have z0 : .long v183 = Value.long y0 := am_inj hm183 q0
                        have z3 : .long v213 = Value.long y3 := am_inj hm213 (by rw [show v212.toNatClampNeg = v101.toNatClampNeg + 3 from (by have b0a := (hx1_4p).1; have b0b := (hx1_4p).2; have b1a := (hv1_4l).1; have b1b := (hv1_4l).2; have b2a := (hv15_17l).1; have b2b := (hv15_17l).2; have b3a := (hq46_65).1; have b3b := (hq46_65).2; have b4a := (hj31_L3_32l).1; have b4b := (hj31_L3_32l).2; have b5a := (hv37).1; have b5b := (hv37).2; have b6a := (hv39_46l).1; have b6b := (hv39_46l).2; have b7a := (hv45_46r).1; have b7b := (hv45_46r).2; have b8a := (hj52_L3).1; have b8b := (hj52_L3).2; have b9a := (hj52_L4).1; have b9b := (hj52_L4).2; have b10a := (hv97).1; have b10b := (hv97).2; have b11a := (hv100).1; have b11b := (hv100).2; have b12a := (hv101).1; have b12b := (hv101).2; have b13a := (hj168_S0_170l).1; have b13b := (hj168_S0_170l).2; have b14a := ((jv_top v183)).1; have b14b := ((jv_top v183)).2; have b15a := (hv184).1; have b15b := (hv184).2; have b16a := (hv192).1; have b16b := (hv192).2; have b17a := ((jv_top v193)).1; have b17b := ((jv_top v193)).2; have b18a := (hv194).1; have b18b := (hv194).2; have b19a := (hv202).1; have b19b := (hv202).2; have b20a := ((jv_top v203)).1; have b20b := ((jv_top v203)).2; have b21a := (hv204).1; have b21b := (hv204).2; have b22a := (hv212).1; have b22b := (hv212).2; have b23a := ((jv_top v213)).1; have b23b := ((jv_top v213)).2; have b24a := (hv214).1; have b24b := (hv214).2; have b25a := (hv222).1; have b25b := (hv222).2; have b26a := ((jv_top v223)).1; have b26b := ((jv_top v223)).2; have b27a := (hv224).1; have b27b := (hv224).2; show v212.toInt.toNat = v101.toInt.toNat + 3; omega)]; exact q3)
                        have z4 : .long v223 = Value.long y4 := am_inj hm223 (by rw [show v222.toNatClampNeg = v101.toNatClampNeg + 4 from (by have b0a := (hx1_4p).1; have b0b := (hx1_4p).2; have b1a := (hv1_4l).1; have b1b := (hv1_4l).2; have b2a := (hv15_17l).1; have b2b := (hv15_17l).2; have b3a := (hq46_65).1; have b3b := (hq46_65).2; have b4a := (hj31_L3_32l).1; have b4b := (hj31_L3_32l).2; have b5a := (hv37).1; have b5b := (hv37).2; have b6a := (hv39_46l).1; have b6b := (hv39_46l).2; have b7a := (hv45_46r).1; have b7b := (hv45_46r).2; have b8a := (hj52_L3).1; have b8b := (hj52_L3).2; have b9a := (hj52_L4).1; have b9b := (hj52_L4).2; have b10a := (hv97).1; have b10b := (hv97).2; have b11a := (hv100).1; have b11b := (hv100).2; have b12a := (hv101).1; have b12b := (hv101).2; have b13a := (hj168_S0_170l).1; have b13b := (hj168_S0_170l).2; have b14a := ((jv_top v183)).1; have b14b := ((jv_top v183)).2; have b15a := (hv184).1; have b15b := (hv184).2; have b16a := (hv192).1; have b16b := (hv192).2; have b17a := ((jv_top v193)).1; have b17b := ((jv_top v193)).2; have b18a := (hv194).1; have b18b := (hv194).2; have b19a := (hv202).1; have b19b := (hv202).2; have b20a := ((jv_top v203)).1; have b20b := ((jv_top v203)).2; have b21a := (hv204).1; have b21b := (hv204).2; have b22a := (hv212).1; have b22b := (hv212).2; have b23a := ((jv_top v213)).1; have b23b := ((jv_top v213)).2; have b24a := (hv214).1; have b24b := (hv214).2; have b25a := (hv222).1; have b25b := (hv222).2; have b26a := ((jv_top v223)).1; have b26b := ((jv_top v223)).2; have b27a := (hv224).1; have b27b := (hv224).2; show v222.toInt.toNat = v101.toInt.toNat + 4; omega)]; exact q4)
                        injection z0 with z0
                        injection z3 with z3
                        injection z4 with z4
                        rw [← z0, ← e184] at i0
                        rw [← z4, ← e224] at i4
                        rw [← z3, ← z4, ← e214, ← e224] at i34
                        have i0a := i0.1
                        have i0b := i0.2
                        have i4a := i4.1
                        have i4b := i4.2
                        have hh225_66 : iv v184 0 7 := by have b0a := (hx1_4p).1; have b0b := (hx1_4p).2; have b1a := (hv1_4l).1; have b1b := (hv1_4l).2; have b2a := (hv15_17l).1; have b2b := (hv15_17l).2; have b3a := (hq46_65).1; have b3b := (hq46_65).2; have b4a := (hj31_L3_32l).1; have b4b := (hj31_L3_32l).2; have b5a := (hv37).1; have b5b := (hv37).2; have b6a := (hv39_46l).1; have b6b := (hv39_46l).2; have b7a := (hv45_46r).1; have b7b := (hv45_46r).2; have b8a := (hj52_L3).1; have b8b := (hj52_L3).2; have b9a := (hj52_L4).1; have b9b := (hj52_L4).2; have b10a := (hv97).1; have b10b := (hv97).2; have b11a := (hv100).1; have b11b := (hv100).2; have b12a := (hv101).1; have b12b := (hv101).2; have b13a := (hj168_S0_170l).1; have b13b := (hj168_S0_170l).2; have b14a := ((jv_top v183)).1; have b14b := ((jv_top v183)).2; have b15a := (hv184).1; have b15b := (hv184).2; have b16a := (hv192).1; have b16b := (hv192).2; have b17a := ((jv_top v193)).1; have b17b := ((jv_top v193)).2; have b18a := (hv194).1; have b18b := (hv194).2; have b19a := (hv202).1; have b19b := (hv202).2; have b20a := ((jv_top v203)).1; have b20b := ((jv_top v203)).2; have b21a := (hv204).1; have b21b := (hv204).2; have b22a := (hv212).1; have b22b := (hv212).2; have b23a := ((jv_top v213)).1; have b23b := ((jv_top v213)).2; have b24a := (hv214).1; have b24b := (hv214).2; have b25a := (hv222).1; have b25b := (hv222).2; have b26a := ((jv_top v223)).1; have b26b := ((jv_top v223)).2; have b27a := (hv224).1; have b27b := (hv224).2; exact ⟨by omega, by omega⟩
                        have hh225_67 : iv v224 (-1) 7 := by have b0a := (hx1_4p).1; have b0b := (hx1_4p).2; have b1a := (hv1_4l).1; have b1b := (hv1_4l).2; have b2a := (hv15_17l).1; have b2b := (hv15_17l).2; have b3a := (hq46_65).1; have b3b := (hq46_65).2; have b4a := (hj31_L3_32l).1; have b4b := (hj31_L3_32l).2; have b5a := (hv37).1; have b5b := (hv37).2; have b6a := (hv39_46l).1; have b6b := (hv39_46l).2; have b7a := (hv45_46r).1; have b7b := (hv45_46r).2; have b8a := (hj52_L3).1; have b8b := (hj52_L3).2; have b9a := (hj52_L4).1; have b9b := (hj52_L4).2; have b10a := (hv97).1; have b10b := (hv97).2; have b11a := (hv100).1; have b11b := (hv100).2; have b12a := (hv101).1; have b12b := (hv101).2; have b13a := (hj168_S0_170l).1; have b13b := (hj168_S0_170l).2; have b14a := ((jv_top v183)).1; have b14b := ((jv_top v183)).2; have b15a := (hh225_66).1; have b15b := (hh225_66).2; have b16a := (hv192).1; have b16b := (hv192).2; have b17a := ((jv_top v193)).1; have b17b := ((jv_top v193)).2; have b18a := (hv194).1; have b18b := (hv194).2; have b19a := (hv202).1; have b19b := (hv202).2; have b20a := ((jv_top v203)).1; have b20b := ((jv_top v203)).2; have b21a := (hv204).1; have b21b := (hv204).2; have b22a := (hv212).1; have b22b := (hv212).2; have b23a := ((jv_top v213)).1; have b23b := ((jv_top v213)).2; have b24a := (hv214).1; have b24b := (hv214).2; have b25a := (hv222).1; have b25b := (hv222).2; have b26a := ((jv_top v223)).1; have b26b := ((jv_top v223)).2; have b27a := (hv224).1; have b27b := (hv224).2; exact ⟨by omega, by omega⟩
                        refine ti_callv (va_runV (As := [.int v184, .int v194, .int v204, .int v214, .int v224]) (rest := []) ⟨hx, hb, hml, hown, hts⟩ (t_X10_acts l hT ha0 (iv_w hh225_66 (by decide)) (iv_w hv194 (by decide)) (iv_w hv204 (by decide)) (iv_w hv214 (by decide)) (iv_w hh225_67 (by decide)) (fun h9 => by have b0a := (hv214).1; have b0b := (hv214).2; have b1a := (hh225_67).1; have b1b := (hh225_67).2; omega) hU) (cwV 5 hts (good_V kw_787 kw_788 kw_789 kw_5 kw_790) rfl rfl rfl (by decide +kernel) ⟨by rw [hR]; decide, by rw [hR]; decide⟩) (ti_preV hK hT ha0 rfl rfl) rfl rfl hl.1 rfl (lv_room (Nat.le_of_ble_eq_true rfl)) dX10_judge_225 ⟨Nat.zero_le _, Nat.zero_le _⟩) hS (pW_sub rfl) (fun H locs hB hS _ hk225 => ?_)
                        have hT := hB
                        obtain ⟨v228, e228⟩ : ∃ y : Int32, y = j31_L2 + 1 := ⟨_, rfl⟩
                        have hv228 : iv v228 1 12 := by rw [e228]; exact iv_w (iv_add hq46_65 (iv_c (x := (1 : Int32)) (k := 1) (by decide)) (by decide)) (by decide)
                        have s228 : v228.toInt = j31_L2.toInt + 1 := by rw [e228, iv_addE hq46_65 (iv_c (x := (1 : Int32)) (k := 1) (by decide)) (by decide)]; rfl
                        refine lv_iinc (v := v228) (lv' := [(2, .int v228), (3, .int j168_S0), (0, .ref a0), (1, .int x1), (4, .int v101)]) hx hb dX10_judge_228 hl (k := 3) rfl (by rw [e228]; rfl) (by decide) rfl (fun ls hl => ?_)
                        refine lv_goto (tgt := 31) hx hb dX10_judge_231 (by decide) ?_
                        exact ih31 v228 j168_S0 _ _ _ (ms_jx hms31 (Or.inl ⟨s228, (iv_w (c := 0) (d := 1) hj168_S0_170l (by decide)).2⟩) (iv_w (c := 1) (d := 1) hj31_L3_32l (by decide)).1 (iv_w (c := 0) (d := 13) hq46_65 (by decide)).2) (iv_w hv228 (by decide)) (iv_w hj168_S0_170l (by decide)) hT hS (lv_sub hl [2, 3, 0, 1] rfl)
                      · skip
                        have f170 := i_eq c170
                        have hj168_S0_170l : iv j168_S0 0 0 := iv_eql hj168_S0 (iv_c (x := (0 : Int32)) (k := 0) (by decide)) c170 (by decide)
                        refine lv_goto (tgt := 31) hx hb dX10_judge_173 (by decide) ?_
                        exact ih31 j31_L2 j168_S0 _ _ _ (ms_jx hms31 (Or.inr ⟨rfl, (iv_w (c := 0) (d := 0) hj168_S0_170l (by decide)).2⟩) (iv_w (c := 1) (d := 1) hj31_L3_32l (by decide)).1 (iv_w (c := 0) (d := 13) hq46_65 (by decide)).2) (iv_w hq46_65 (by decide)) (iv_w hj168_S0_170l (by decide)) hT hS (lv_sub hl [1, 2, 3, 0] rfl)
                    have J167 : ∀  (H : Heap) (locs : List Loc) (ls : Array Slot), TI D vwCl (tysOf c0) (RTg (νt ν)) Y H → va_S (pW Y [10, 30, 41, 42]) s.heap H locs → lv_has ls 5 [(0, .ref a0), (1, .int x1), (2, .int j31_L2), (3, .int j52_L3), (4, .int v101)] → W p l e R s m ([.ref a0, .int x1] : List Value).toArray below meth c H locs 0 0 Q (F0 m 167 ls []) := by
                      intro  H locs ls  hT hS hl
                      refine lv_iconst (v := 0) hx hb dX10_judge_167 (by decide) ?_
                      exact J168 (0 : Int32) _ _ _  (iv_w (iv_c (x := (0 : Int32)) (k := 0) (by decide)) (by decide)) (fun h9 => absurd h9 (by decide)) hT hS (lv_sub hl [0, 1, 2, 3, 4] rfl)
                    refine lv_if_eq (tgt := 167) hx hb dX10_judge_105 (by decide) (fun c105 => ?_) (fun c105 => ?_)
                    · skip
                      have f105 := i_eq c105
                      have hj52_L3_105l : iv j52_L3 0 0 := iv_eql hj52_L3 (iv_c (x := (0 : Int32)) (k := 0) (by decide)) c105 (by decide)
                      exact J167  _ _ _   hT hS (lv_sub hl [1, 2, 3, 4, 0] rfl)
                    · skip
                      have f105 := i_ne c105
                      have hj52_L3_105l : iv j52_L3 1 1 := iv_nel hj52_L3 (iv_c (x := (0 : Int32)) (k := 0) (by decide)) c105 (by decide)
                      refine lv_aload_n hx hb dX10_judge_108 rfl (lv_at hl 1 rfl) ?_
                      refine lv_aload_n hx hb dX10_judge_109 rfl (lv_at hl 1 rfl) ?_
                      refine ti_getr hx hb hts inlX10 hown hK hT ha0 rfl rfl rfl 36 (by decide) (hts _ kw_153) (fun _ h9 => h9) rfl dX10_judge_110 (fun v110 hv110 hm110 => ?_)
                      refine lv_iload hx hb dX10_judge_113 (lv_at hl 0 rfl) ?_
                      refine ti_lald hx hb (aT3 hK) hT hv110 rfl hv101 (by decide) (fun _ _ _ => rfl) dX10_judge_115 (fun v115 hm115 => ?_)
                      refine lv_l2i hx hb dX10_judge_116 rfl ?_
                      refine lv_topi (fun v116 e116 => ?_)
                      have hv116 : iv v116 (-2147483648) 2147483647 := iv_top _
                      refine lv_aload_n hx hb dX10_judge_117 rfl (lv_at hl 1 rfl) ?_
                      refine ti_getE (ci := 10) (v := .ref v110) hx hb hts inlX10 hown hK hm110 rfl (by decide) (hts _ kw_153) (fun _ h9 => h9) dX10_judge_118 ?_
                      refine lv_iload hx hb dX10_judge_121 (lv_at hl 0 rfl) ?_
                      refine lv_iconst (v := 1) hx hb dX10_judge_123 (by decide) ?_
                      refine lv_iadd hx hb dX10_judge_124 ?_
                      refine lv_topi (fun v124 e124 => ?_)
                      have hv124 : iv v124 1 236 := by rw [e124]; exact iv_w (iv_add hv101 (iv_c (x := (1 : Int32)) (k := 1) (by decide)) (by decide)) (by decide)
                      have s124 : v124.toInt = v101.toInt + 1 := by rw [e124, iv_addE hv101 (iv_c (x := (1 : Int32)) (k := 1) (by decide)) (by decide)]; rfl
                      have kl1 : (1 : Int32).toInt = 1 := by decide
                      refine ti_lald hx hb (aT3 hK) hT hv110 rfl hv124 (by decide) (fun _ _ _ => rfl) dX10_judge_125 (fun v125 hm125 => ?_)
                      refine lv_l2i hx hb dX10_judge_126 rfl ?_
                      refine lv_topi (fun v126 e126 => ?_)
                      have hv126 : iv v126 (-2147483648) 2147483647 := iv_top _
                      refine lv_aload_n hx hb dX10_judge_127 rfl (lv_at hl 1 rfl) ?_
                      refine ti_getE (ci := 10) (v := .ref v110) hx hb hts inlX10 hown hK hm110 rfl (by decide) (hts _ kw_153) (fun _ h9 => h9) dX10_judge_128 ?_
                      refine lv_iload hx hb dX10_judge_131 (lv_at hl 0 rfl) ?_
                      refine lv_iconst (v := 2) hx hb dX10_judge_133 (by decide) ?_
                      refine lv_iadd hx hb dX10_judge_134 ?_
                      refine lv_topi (fun v134 e134 => ?_)
                      have hv134 : iv v134 2 237 := by rw [e134]; exact iv_w (iv_add hv101 (iv_c (x := (2 : Int32)) (k := 2) (by decide)) (by decide)) (by decide)
                      have s134 : v134.toInt = v101.toInt + 2 := by rw [e134, iv_addE hv101 (iv_c (x := (2 : Int32)) (k := 2) (by decide)) (by decide)]; rfl
                      have kl2 : (2 : Int32).toInt = 2 := by decide
                      refine ti_lald hx hb (aT3 hK) hT hv110 rfl hv134 (by decide) (fun _ _ _ => rfl) dX10_judge_135 (fun v135 hm135 => ?_)
                      refine lv_l2i hx hb dX10_judge_136 rfl ?_
                      refine lv_topi (fun v136 e136 => ?_)
                      have hv136 : iv v136 (-2147483648) 2147483647 := iv_top _
                      refine lv_aload_n hx hb dX10_judge_137 rfl (lv_at hl 1 rfl) ?_
                      refine ti_getE (ci := 10) (v := .ref v110) hx hb hts inlX10 hown hK hm110 rfl (by decide) (hts _ kw_153) (fun _ h9 => h9) dX10_judge_138 ?_
                      refine lv_iload hx hb dX10_judge_141 (lv_at hl 0 rfl) ?_
                      refine lv_iconst (v := 3) hx hb dX10_judge_143 (by decide) ?_
                      refine lv_iadd hx hb dX10_judge_144 ?_
                      refine lv_topi (fun v144 e144 => ?_)
                      have hv144 : iv v144 3 238 := by rw [e144]; exact iv_w (iv_add hv101 (iv_c (x := (3 : Int32)) (k := 3) (by decide)) (by decide)) (by decide)
                      have s144 : v144.toInt = v101.toInt + 3 := by rw [e144, iv_addE hv101 (iv_c (x := (3 : Int32)) (k := 3) (by decide)) (by decide)]; rfl
                      have kl3 : (3 : Int32).toInt = 3 := by decide
                      refine ti_lald hx hb (aT3 hK) hT hv110 rfl hv144 (by decide) (fun _ _ _ => rfl) dX10_judge_145 (fun v145 hm145 => ?_)
                      refine lv_l2i hx hb dX10_judge_146 rfl ?_
                      refine lv_topi (fun v146 e146 => ?_)
                      have hv146 : iv v146 (-2147483648) 2147483647 := iv_top _
                      refine lv_aload_n hx hb dX10_judge_147 rfl (lv_at hl 1 rfl) ?_
                      refine ti_getE (ci := 10) (v := .ref v110) hx hb hts inlX10 hown hK hm110 rfl (by decide) (hts _ kw_153) (fun _ h9 => h9) dX10_judge_148 ?_
                      refine lv_iload hx hb dX10_judge_151 (lv_at hl 0 rfl) ?_
                      refine lv_iconst (v := 4) hx hb dX10_judge_153 (by decide) ?_
                      refine lv_iadd hx hb dX10_judge_154 ?_
                      refine lv_topi (fun v154 e154 => ?_)
                      have hv154 : iv v154 4 239 := by rw [e154]; exact iv_w (iv_add hv101 (iv_c (x := (4 : Int32)) (k := 4) (by decide)) (by decide)) (by decide)
                      have s154 : v154.toInt = v101.toInt + 4 := by rw [e154, iv_addE hv101 (iv_c (x := (4 : Int32)) (k := 4) (by decide)) (by decide)]; rfl
                      have kl4 : (4 : Int32).toInt = 4 := by decide
                      refine ti_lald hx hb (aT3 hK) hT hv110 rfl hv154 (by decide) (fun _ _ _ => rfl) dX10_judge_155 (fun v155 hm155 => ?_)
                      refine lv_l2i hx hb dX10_judge_156 rfl ?_
                      refine lv_topi (fun v156 e156 => ?_)
                      have hv156 : iv v156 (-2147483648) 2147483647 := iv_top _
                      refine ti_calli (va_runV (As := [.int v116, .int v126, .int v136, .int v146, .int v156]) (rest := []) ⟨hx, hb, hml, hown, hts⟩ (t_X10_why l hT ha0 (iv_w hv116 (by decide)) (iv_w hv126 (by decide)) (iv_w hv136 (by decide)) (iv_w hv146 (by decide)) (iv_w hv156 (by decide)) hU) (cwV 5 hts (good_V kw_779 kw_780 kw_781 kw_5 kw_782) rfl rfl rfl (by decide +kernel) ⟨by rw [hR]; decide, by rw [hR]; decide⟩) (ti_preV hK hT ha0 rfl rfl) rfl rfl hl.1 rfl (lv_room (Nat.le_of_ble_eq_true rfl)) dX10_judge_157 ⟨Nat.zero_le _, Nat.zero_le _⟩) hS (pW_sub rfl) (fun v157 H1 locs hB hS _ hk157 => ?_)
                      obtain ⟨hH, hv157, hp157⟩ := hB
                      rw [hH] at hS ⊢
                      refine lv_if_ne (tgt := 167) hx hb dX10_judge_160 (by decide) (fun c160 => ?_) (fun c160 => ?_)
                      · skip
                        have f160 := i_ne c160
                        have hv157_160l : iv v157 (-5) (-1) := iv_nel hv157 (iv_c (x := (0 : Int32)) (k := 0) (by decide)) c160 (by decide)
                        exact J167  _ _ _   hT hS (lv_sub hl [1, 2, 3, 4, 0] rfl)
                      · skip
                        have f160 := i_eq c160
                        have hv157_160l : iv v157 0 0 := iv_eql hv157 (iv_c (x := (0 : Int32)) (k := 0) (by decide)) c160 (by decide)
                        have hv116_160p : iv v116 0 7 := by have b0a := (hv116).1; have b0b := (hv116).2; exact ⟨by omega, by omega⟩
                        have hv156_160p : iv v156 (-1) 7 := by have b0a := (hv156).1; have b0b := (hv156).2; exact ⟨by omega, by omega⟩
                        refine lv_iconst (v := 1) hx hb dX10_judge_163 (by decide) ?_
                        refine lv_goto (tgt := 168) hx hb dX10_judge_164 (by decide) ?_
                        exact J168 (1 : Int32) _ _ _  (iv_w (iv_c (x := (1 : Int32)) (k := 1) (by decide)) (by decide)) (fun _ => ⟨v115, v145, v155, fun q hq => by
            have e9 := hU 39 q v110 (by decide) hq hv110
            subst e9
            exact ⟨hm115, (by rw [show v101.toNatClampNeg + 3 = v144.toNatClampNeg from (by have b0a := (hx1_4p).1; have b0b := (hx1_4p).2; have b1a := (hv1_4l).1; have b1b := (hv1_4l).2; have b2a := (hv15_17l).1; have b2b := (hv15_17l).2; have b3a := (hq46_65).1; have b3b := (hq46_65).2; have b4a := (hj31_L3_32l).1; have b4b := (hj31_L3_32l).2; have b5a := (hv37).1; have b5b := (hv37).2; have b6a := (hv39_46l).1; have b6b := (hv39_46l).2; have b7a := (hv45_46r).1; have b7b := (hv45_46r).2; have b8a := (hj52_L3_105l).1; have b8b := (hj52_L3_105l).2; have b9a := (hj52_L4).1; have b9b := (hj52_L4).2; have b10a := (hv97).1; have b10b := (hv97).2; have b11a := (hv100).1; have b11b := (hv100).2; have b12a := (hv101).1; have b12b := (hv101).2; have b13a := ((jv_top v115)).1; have b13b := ((jv_top v115)).2; have b14a := (hv116_160p).1; have b14b := (hv116_160p).2; have b15a := (hv124).1; have b15b := (hv124).2; have b16a := ((jv_top v125)).1; have b16b := ((jv_top v125)).2; have b17a := (hv126).1; have b17b := (hv126).2; have b18a := (hv134).1; have b18b := (hv134).2; have b19a := ((jv_top v135)).1; have b19b := ((jv_top v135)).2; have b20a := (hv136).1; have b20b := (hv136).2; have b21a := (hv144).1; have b21b := (hv144).2; have b22a := ((jv_top v145)).1; have b22b := ((jv_top v145)).2; have b23a := (hv146).1; have b23b := (hv146).2; have b24a := (hv154).1; have b24b := (hv154).2; have b25a := ((jv_top v155)).1; have b25b := ((jv_top v155)).2; have b26a := (hv156_160p).1; have b26b := (hv156_160p).2; have b27a := (hv157_160l).1; have b27b := (hv157_160l).2; show v101.toInt.toNat + 3 = v144.toInt.toNat; omega)]; exact hm145), (by rw [show v101.toNatClampNeg + 4 = v154.toNatClampNeg from (by have b0a := (hx1_4p).1; have b0b := (hx1_4p).2; have b1a := (hv1_4l).1; have b1b := (hv1_4l).2; have b2a := (hv15_17l).1; have b2b := (hv15_17l).2; have b3a := (hq46_65).1; have b3b := (hq46_65).2; have b4a := (hj31_L3_32l).1; have b4b := (hj31_L3_32l).2; have b5a := (hv37).1; have b5b := (hv37).2; have b6a := (hv39_46l).1; have b6b := (hv39_46l).2; have b7a := (hv45_46r).1; have b7b := (hv45_46r).2; have b8a := (hj52_L3_105l).1; have b8b := (hj52_L3_105l).2; have b9a := (hj52_L4).1; have b9b := (hj52_L4).2; have b10a := (hv97).1; have b10b := (hv97).2; have b11a := (hv100).1; have b11b := (hv100).2; have b12a := (hv101).1; have b12b := (hv101).2; have b13a := ((jv_top v115)).1; have b13b := ((jv_top v115)).2; have b14a := (hv116_160p).1; have b14b := (hv116_160p).2; have b15a := (hv124).1; have b15b := (hv124).2; have b16a := ((jv_top v125)).1; have b16b := ((jv_top v125)).2; have b17a := (hv126).1; have b17b := (hv126).2; have b18a := (hv134).1; have b18b := (hv134).2; have b19a := ((jv_top v135)).1; have b19b := ((jv_top v135)).2; have b20a := (hv136).1; have b20b := (hv136).2; have b21a := (hv144).1; have b21b := (hv144).2; have b22a := ((jv_top v145)).1; have b22b := ((jv_top v145)).2; have b23a := (hv146).1; have b23b := (hv146).2; have b24a := (hv154).1; have b24b := (hv154).2; have b25a := ((jv_top v155)).1; have b25b := ((jv_top v155)).2; have b26a := (hv156_160p).1; have b26b := (hv156_160p).2; have b27a := (hv157_160l).1; have b27b := (hv157_160l).2; show v101.toInt.toNat + 4 = v154.toInt.toNat; omega)]; exact hm155)⟩, by rw [← e116]; exact iv_w hv116_160p (by decide), by rw [← e156]; exact iv_w hv156_160p (by decide), by rw [← e146, ← e156]; intro h9; have b0a := (hx1_4p).1; have b0b := (hx1_4p).2; have b1a := (hv1_4l).1; have b1b := (hv1_4l).2; have b2a := (hv15_17l).1; have b2b := (hv15_17l).2; have b3a := (hq46_65).1; have b3b := (hq46_65).2; have b4a := (hj31_L3_32l).1; have b4b := (hj31_L3_32l).2; have b5a := (hv37).1; have b5b := (hv37).2; have b6a := (hv39_46l).1; have b6b := (hv39_46l).2; have b7a := (hv45_46r).1; have b7b := (hv45_46r).2; have b8a := (hj52_L3_105l).1; have b8b := (hj52_L3_105l).2; have b9a := (hj52_L4).1; have b9b := (hj52_L4).2; have b10a := (hv97).1; have b10b := (hv97).2; have b11a := (hv100).1; have b11b := (hv100).2; have b12a := (hv101).1; have b12b := (hv101).2; have b13a := ((jv_top v115)).1; have b13b := ((jv_top v115)).2; have b14a := (hv116_160p).1; have b14b := (hv116_160p).2; have b15a := (hv124).1; have b15b := (hv124).2; have b16a := ((jv_top v125)).1; have b16b := ((jv_top v125)).2; have b17a := (hv126).1; have b17b := (hv126).2; have b18a := (hv134).1; have b18b := (hv134).2; have b19a := ((jv_top v135)).1; have b19b := ((jv_top v135)).2; have b20a := (hv136).1; have b20b := (hv136).2; have b21a := (hv144).1; have b21b := (hv144).2; have b22a := ((jv_top v145)).1; have b22b := ((jv_top v145)).2; have b23a := (hv146).1; have b23b := (hv146).2; have b24a := (hv154).1; have b24b := (hv154).2; have b25a := ((jv_top v155)).1; have b25b := ((jv_top v155)).2; have b26a := (hv156_160p).1; have b26b := (hv156_160p).2; have b27a := (hv157_160l).1; have b27b := (hv157_160l).2; omega⟩) hT hS (lv_sub hl [1, 2, 3, 4, 0] rfl)
                  refine lv_icmp_ge (tgt := 94) hx hb dX10_judge_55 (by decide) (fun c55 => ?_) (fun c55 => ?_)
                  · skip
                    have f55 := i_le c55
                    have hj52_L4_55r : iv j52_L4 5 5 := iv_ler (iv_c (x := (5 : Int32)) (k := 5) (by decide)) hj52_L4 c55 (by decide)
                    exact J94  _ _ _   hT hS (lv_sub hl [0, 1, 2, 3, 4] rfl)
                  · skip
                    have f55 := i_nle c55
                    have hj52_L4_55l : iv j52_L4 0 4 := iv_ltl hj52_L4 (iv_c (x := (5 : Int32)) (k := 5) (by decide)) (Int32.not_le.mp c55) (by decide)
                    refine lv_iload_n hx hb dX10_judge_58 rfl (lv_at hl 3 rfl) ?_
                    refine lv_if_eq (tgt := 94) hx hb dX10_judge_59 (by decide) (fun c59 => ?_) (fun c59 => ?_)
                    · skip
                      have f59 := i_eq c59
                      have hj52_L3_59l : iv j52_L3 0 0 := iv_eql hj52_L3 (iv_c (x := (0 : Int32)) (k := 0) (by decide)) c59 (by decide)
                      exact J94  _ _ _   hT hS (lv_sub hl [0, 1, 2, 3, 4] rfl)
                    · skip
                      have f59 := i_ne c59
                      have hj52_L3_59l : iv j52_L3 1 1 := iv_nel hj52_L3 (iv_c (x := (0 : Int32)) (k := 0) (by decide)) c59 (by decide)
                      refine lv_aload_n hx hb dX10_judge_62 rfl (lv_at hl 0 rfl) ?_
                      refine ti_getr hx hb hts inlX10 hown hK hT ha0 rfl rfl rfl 36 (by decide) (hts _ kw_153) (fun _ h9 => h9) rfl dX10_judge_63 (fun v63 hv63 hm63 => ?_)
                      refine lv_bipush (v := 60) hx hb dX10_judge_66 (by decide) ?_
                      refine lv_iload_n hx hb dX10_judge_68 rfl (lv_at hl 1 rfl) ?_
                      refine lv_imul hx hb dX10_judge_69 ?_
                      refine lv_topi (fun v69 e69 => ?_)
                      have hv69 : iv v69 0 180 := by rw [e69]; exact iv_mul (iv_c (x := (60 : Int32)) (k := 60) (by decide)) hx1_4p (by decide)
                      have kl60 : (60 : Int32).toInt = 60 := by decide
                      have s69 : v69.toInt = (60 : Int32).toInt * x1.toInt := by rw [e69]; exact iv_mulE (iv_c (x := (60 : Int32)) (k := 60) (by decide)) hx1_4p (by decide)
                      have s69 : v69.toInt = 60 * x1.toInt := by rw [s69]; simp only [show (60 : Int32).toInt = 60 from by decide]; try omega
                      refine lv_iconst (v := 5) hx hb dX10_judge_70 (by decide) ?_
                      refine lv_iload_n hx hb dX10_judge_71 rfl (lv_at hl 2 rfl) ?_
                      refine lv_imul hx hb dX10_judge_72 ?_
                      refine lv_topi (fun v72 e72 => ?_)
                      have hv72 : iv v72 0 55 := by rw [e72]; exact iv_mul (iv_c (x := (5 : Int32)) (k := 5) (by decide)) hq46_65 (by decide)
                      have s72 : v72.toInt = (5 : Int32).toInt * j31_L2.toInt := by rw [e72]; exact iv_mulE (iv_c (x := (5 : Int32)) (k := 5) (by decide)) hq46_65 (by decide)
                      have s72 : v72.toInt = 5 * j31_L2.toInt := by rw [s72]; simp only [show (5 : Int32).toInt = 5 from by decide]; try omega
                      refine lv_iadd hx hb dX10_judge_73 ?_
                      refine lv_topi (fun v73 e73 => ?_)
                      have hv73 : iv v73 0 235 := by rw [e73]; exact iv_w (iv_add hv69 hv72 (by decide)) (by decide)
                      have s73 : v73.toInt = v69.toInt + v72.toInt := by rw [e73]; exact iv_addE hv69 hv72 (by decide)
                      refine lv_iload hx hb dX10_judge_74 (lv_at hl 4 rfl) ?_
                      refine lv_iadd hx hb dX10_judge_76 ?_
                      refine lv_topi (fun v76 e76 => ?_)
                      have hv76 : iv v76 0 239 := by rw [e76]; exact iv_w (iv_add hv73 hj52_L4_55l (by decide)) (by decide)
                      have s76 : v76.toInt = v73.toInt + j52_L4.toInt := by rw [e76]; exact iv_addE hv73 hj52_L4_55l (by decide)
                      refine ti_lald hx hb (aT3 hK) hT hv63 rfl hv76 (by decide) (fun _ _ _ => rfl) dX10_judge_77 (fun v77 hm77 => ?_)
                      refine lv_ldc2 (v := -1) hx hb hown (hts _ kw_814) dX10_judge_78 ?_
                      have kjm1 : (-1 : Int64).toInt = -1 := by decide
                      refine lv_ldc2 (v := 1000) hx hb hown (hts _ kw_815) dX10_judge_81 ?_
                      have kj1000 : (1000 : Int64).toInt = 1000 := by decide
                      refine ti_calli (va_runS (As := [.long v77, .long (-1 : Int64), .long (1000 : Int64)]) (rest := []) ⟨hx, hb, hml, hown, hts⟩ (t_X10_in l hT (jv_top v77) (jv_w (jv_c (x := (-1 : Int64)) (k := -1) (by decide)) (by decide)) (jv_w (jv_c (x := (1000 : Int64)) (k := 1000) (by decide)) (by decide))) (cwS 3 hts (good_S kw_181 kw_182 kw_5 kw_183) rfl rfl rfl (by decide +kernel) ⟨by rw [hR]; decide, by rw [hR]; decide⟩) (ti_preS hK) rfl rfl hl.1 rfl (lv_room (Nat.le_of_ble_eq_true rfl)) dX10_judge_84 ⟨Nat.zero_le _, Nat.zero_le _⟩) hS (pW_sub rfl) (fun v84 H1 locs hB hS _ hk84 => ?_)
                      obtain ⟨hH, hv84, hp84⟩ := hB
                      rw [hH] at hS ⊢
                      refine lv_istore_n (lv' := [(3, .int v84), (0, .ref a0), (1, .int x1), (2, .int j31_L2), (4, .int j52_L4)]) hx hb dX10_judge_87 rfl hl (by decide) rfl (fun ls hl => ?_)
                      obtain ⟨v88, e88⟩ : ∃ y : Int32, y = j52_L4 + 1 := ⟨_, rfl⟩
                      have hv88 : iv v88 1 5 := by rw [e88]; exact iv_w (iv_add hj52_L4_55l (iv_c (x := (1 : Int32)) (k := 1) (by decide)) (by decide)) (by decide)
                      have s88 : v88.toInt = j52_L4.toInt + 1 := by rw [e88, iv_addE hj52_L4_55l (iv_c (x := (1 : Int32)) (k := 1) (by decide)) (by decide)]; rfl
                      refine lv_iinc (v := v88) (lv' := [(4, .int v88), (3, .int v84), (0, .ref a0), (1, .int x1), (2, .int j31_L2)]) hx hb dX10_judge_88 hl (k := 4) rfl (by rw [e88]; rfl) (by decide) rfl (fun ls hl => ?_)
                      refine lv_goto (tgt := 52) hx hb dX10_judge_91 (by decide) ?_
                      exact ih52 v84 v88 _ _ _ (ms_up hms52 (by have := s88; omega) (iv_w (c := 1) (d := 5) hv88 (by decide)).2) (iv_w hv84 (by decide)) (iv_w hv88 (by decide)) hT hS (lv_sub hl [2, 3, 4, 1, 0] rfl)
              refine lv_istore (lv' := [(4, .int (0 : Int32)), (0, .ref a0), (1, .int x1), (2, .int j31_L2), (3, .int j31_L3)]) hx hb dX10_judge_50 hl (by decide) rfl (fun ls hl => ?_)
              exact J52 _ j31_L3 (0 : Int32) _ _ _ (Nat.lt_succ_self _) (iv_w hj31_L3_32l (by decide)) (iv_w (iv_c (x := (0 : Int32)) (k := 0) (by decide)) (by decide)) hT hS (lv_sub hl [1, 2, 3, 4, 0] rfl)
      refine lv_istore_n (lv' := [(3, .int (1 : Int32)), (2, .int (0 : Int32)), (0, .ref a0), (1, .int x1)]) hx hb dX10_judge_30 rfl hl (by decide) rfl (fun ls hl => ?_)
      exact J31 _ (0 : Int32) (1 : Int32) _ _ _ (Nat.lt_succ_self _) (iv_w (iv_c (x := (0 : Int32)) (k := 0) (by decide)) (by decide)) (iv_w (iv_c (x := (1 : Int32)) (k := 1) (by decide)) (by decide)) hT hS (lv_sub hl [2, 3, 1, 0] rfl)
    · skip
      have klm1 : (-1 : Int32).toInt = (-1) := by decide
      have f17 := i_eq c17
      have hv15_17l : iv v15 (-1) (-1) := iv_eql hv15 (iv_c (x := (-1 : Int32)) (k := (-1)) (by decide)) c17 (by decide)
      refine lv_bipush (v := (-6)) hx hb dX10_judge_20 (by decide) ?_
      exact ret _ _ _ _ _ dX10_judge_22 (⟨hT, iv_w (iv_c (x := (-6 : Int32)) (k := (-6)) (by decide)) (by decide)⟩) hS
  · skip
    have kl0 : (0 : Int32).toInt = 0 := by decide
    have f4 := i_eq c4
    have hv1_4l : iv v1 0 0 := iv_eql hv1 (iv_c (x := (0 : Int32)) (k := 0) (by decide)) c4 (by decide)
    refine lv_bipush (v := (-2)) hx hb dX10_judge_7 (by decide) ?_
    exact ret _ _ _ _ _ dX10_judge_9 (⟨hT, iv_w (iv_c (x := (-2 : Int32)) (k := (-2)) (by decide)) (by decide)⟩) hS
set_option maxHeartbeats 4000000 in
set_option maxRecDepth 100000 in
theorem t_X10_guesses (l : Launch) {D : va_G} {c0 : Nat → ClassId} {Y : Nat → Option Nat} {ν : Nat → Nat} {H : Heap} (hT : TI D vwCl (tysOf c0) (RTg ν) Y H) {a0 : Nat} (ha0 : Y a0 = some 10) {x1 : Int32} (hx1 : iv x1 0 7) (hU : uq Y) : Met l yX10_guesses (wz yX10_guesses cX10_guesses 3 none) { frames := 3, cells := 0, slots := 0, locals := 66 } (TP D vwCl (tysOf c0) H [.ref a0, .int x1]) (TQv (fun H' => TI D vwCl (tysOf c0) (RTg ν) Y H') Y [29]) 0 0 (pW Y [29]) := by
  refine Met.ofW (cc := cX10_guesses) (maxL := 3) (ret := none) (by decide) rfl ?_
  intro p e s m args below meth c s₁ B hml hv
  obtain ⟨rfl, rfl, hK⟩ := hv
  have hx := B.exec
  have hb := B.bytes
  have hr := B.returns
  have hts : ∀ w ∈ wq, w.before _ s = true := fun w h => atoms_spec (ws := wz yX10_guesses cX10_guesses 3 none) B.pre w (List.mem_cons_of_mem _ h)
  have hown : s.vm.findClass RX10 = some m.cls := findClass_of_methodNamed B.named
  have hlocks := B.notSynchronized
  obtain ⟨R, hR⟩ : ∃ R : Room, R = ({ frames := 3, cells := 0, slots := 0, locals := 66 } : Room) := ⟨_, rfl⟩
  rw [show (headSpec (wz yX10_guesses cX10_guesses 3 none) { frames := 3, cells := 0, slots := 0, locals := 66 }).room = R from hR.symm]
  refine ti_mv hx hb hr hlocks (fun Q ret => ?_)
  have hl := lv_entry [.ref a0, .int x1] (n := 3) (Nat.le_of_ble_eq_true rfl)
  rw [lg_entry_eq]
  generalize (lg_sl [.ref a0, .int x1] ++ List.replicate (3 - (lg_sl [.ref a0, .int x1]).length) Slot.unset).toArray = ls at hl ⊢
  have hl : lv_has ls 3 [(0, .ref a0), (1, .int x1)] := hl
  refine ti_gen (P := fun H => TI D vwCl (tysOf c0) (RTg ν) Y H) (Y := Y) (ws := [29]) hT (fun H locs hT hS => ?_)
  refine lv_iconst (v := 0) hx hb dX10_guesses_0 (by decide) ?_
  have J2 : ∀ (n : Nat) (j2_L2 : Int32) (H : Heap) (locs : List Loc) (ls : Array Slot), (8 - j2_L2.toInt).toNat < n → iv j2_L2 0 8 → TI D vwCl (tysOf c0) (RTg ν) Y H → va_S (pW Y [29]) s.heap H locs → lv_has ls 3 [(0, .ref a0), (1, .int x1), (2, .int j2_L2)] → W p l e R s m ([.ref a0, .int x1] : List Value).toArray below meth c H locs 0 0 Q (F0 m 2 ls []) := by
    intro n
    induction n with
    | zero => intro j2_L2 H locs ls hms; exact absurd hms (Nat.not_lt_zero _)
    | succ n ih2 =>
      intro j2_L2 H locs ls hms2 hj2_L2 hT hS hl
      refine lv_iload_n hx hb dX10_guesses_2 rfl (lv_at hl 2 rfl) ?_
      refine lv_aload_n hx hb dX10_guesses_3 rfl (lv_at hl 0 rfl) ?_
      refine ti_calli (va_runV (As := []) (rest := [.int j2_L2]) ⟨hx, hb, hml, hown, hts⟩ (t_X10_people l hT ha0 hU) (cwV 0 hts (good_V kw_605 kw_606 kw_607 kw_5 kw_608) rfl rfl rfl (by decide +kernel) ⟨by rw [hR]; decide, by rw [hR]; decide⟩) (ti_preV hK hT ha0 rfl rfl) rfl rfl hl.1 rfl (lv_room (Nat.le_of_ble_eq_true rfl)) dX10_guesses_4 ⟨Nat.zero_le _, Nat.zero_le _⟩) hS (pW_sub rfl) (fun v4 H1 locs hB hS _ hk4 => ?_)
      obtain ⟨hH, hv4, hp4⟩ := hB
      rw [hH] at hS ⊢
      refine lv_icmp_ge (tgt := 37) hx hb dX10_guesses_7 (by decide) (fun c7 => ?_) (fun c7 => ?_)
      · skip
        have f7 := i_le c7
        exact ret _ _ _ _ dX10_guesses_37 (hT) hS
      · skip
        have f7 := i_nle c7
        have hj2_L2_7l : iv j2_L2 0 7 := iv_ltl hj2_L2 hv4 (Int32.not_le.mp c7) (by decide)
        have hv4_7r : iv v4 1 8 := iv_ltr hj2_L2_7l hv4 (Int32.not_le.mp c7) (by decide)
        refine lv_aload_n hx hb dX10_guesses_10 rfl (lv_at hl 0 rfl) ?_
        refine ti_getr hx hb hts inlX10 hown hK hT ha0 rfl rfl rfl 20 (by decide) (hts _ kw_140) (fun _ h9 => h9) rfl dX10_guesses_11 (fun v11 hv11 hm11 => ?_)
        refine lv_iload_n hx hb dX10_guesses_14 rfl (lv_at hl 2 rfl) ?_
        refine lv_iload_n hx hb dX10_guesses_15 rfl (lv_at hl 2 rfl) ?_
        refine lv_iload_n hx hb dX10_guesses_16 rfl (lv_at hl 1 rfl) ?_
        have J30 : ∀ (j30_S2 : Int32) (H : Heap) (locs : List Loc) (ls : Array Slot), iv j30_S2 (-2147483648) 2147483647 → TI D vwCl (tysOf c0) (RTg ν) Y H → va_S (pW Y [29]) s.heap H locs → lv_has ls 3 [(0, .ref a0), (1, .int x1), (2, .int j2_L2)] → W p l e R s m ([.ref a0, .int x1] : List Value).toArray below meth c H locs 0 0 Q (F0 m 30 ls [.int j30_S2, .int j2_L2, .ref v11]) := by
          intro j30_S2 H locs ls hj30_S2 hT hS hl
          refine ti_iast hx hb (aT0 hK) hT hS hv11 rfl rfl hj2_L2_7l (by decide) (fun _ _ _ => ⟨_, _, rfl, by decide, by decide⟩) hj30_S2 (fun _ _ => trivial) dX10_guesses_30 (fun H locs hT hS oq30 he30 hk30 => ?_)
          obtain ⟨v31, e31⟩ : ∃ y : Int32, y = j2_L2 + 1 := ⟨_, rfl⟩
          have hv31 : iv v31 1 8 := by rw [e31]; exact iv_w (iv_add hj2_L2_7l (iv_c (x := (1 : Int32)) (k := 1) (by decide)) (by decide)) (by decide)
          have s31 : v31.toInt = j2_L2.toInt + 1 := by rw [e31, iv_addE hj2_L2_7l (iv_c (x := (1 : Int32)) (k := 1) (by decide)) (by decide)]; rfl
          refine lv_iinc (v := v31) (lv' := [(2, .int v31), (0, .ref a0), (1, .int x1)]) hx hb dX10_guesses_31 hl (k := 2) rfl (by rw [e31]; rfl) (by decide) rfl (fun ls hl => ?_)
          refine lv_goto (tgt := 2) hx hb dX10_guesses_34 (by decide) ?_
          exact ih2 v31 _ _ _ (ms_up hms2 (by have := s31; omega) (iv_w (c := 1) (d := 8) hv31 (by decide)).2) (iv_w hv31 (by decide)) hT hS (lv_sub hl [1, 2, 0] rfl)
        refine lv_icmp_ne (tgt := 24) hx hb dX10_guesses_17 (by decide) (fun c17 => ?_) (fun c17 => ?_)
        · skip
          have f17 := i_ne c17
          refine lv_aload_n hx hb dX10_guesses_24 rfl (lv_at hl 0 rfl) ?_
          refine lv_iload_n hx hb dX10_guesses_25 rfl (lv_at hl 1 rfl) ?_
          refine lv_iload_n hx hb dX10_guesses_26 rfl (lv_at hl 2 rfl) ?_
          refine ti_calli (va_runV (As := [.int x1, .int j2_L2]) (rest := [.int j2_L2, .ref v11]) ⟨hx, hb, hml, hown, hts⟩ (t_X10_sees l hT ha0 (iv_w hx1 (by decide)) (iv_w hj2_L2_7l (by decide)) hU) (cwV 2 hts (good_V kw_549 kw_550 kw_551 kw_5 kw_552) rfl rfl rfl (by decide +kernel) ⟨by rw [hR]; decide, by rw [hR]; decide⟩) (ti_preV hK hT ha0 rfl rfl) rfl rfl hl.1 rfl (lv_room (Nat.le_of_ble_eq_true rfl)) dX10_guesses_27 ⟨Nat.zero_le _, Nat.zero_le _⟩) hS (pW_sub rfl) (fun v27 H1 locs hB hS _ hk27 => ?_)
          have hH := hB
          rw [hH] at hS ⊢
          exact J30 v27 _ _ _  (iv_w (iv_top v27) (by decide)) hT hS (lv_sub hl [0, 1, 2] rfl)
        · skip
          have f17 := i_eq c17
          refine lv_iconst (v := 0) hx hb dX10_guesses_20 (by decide) ?_
          refine lv_goto (tgt := 30) hx hb dX10_guesses_21 (by decide) ?_
          exact J30 (0 : Int32) _ _ _  (iv_w (iv_c (x := (0 : Int32)) (k := 0) (by decide)) (by decide)) hT hS (lv_sub hl [0, 1, 2] rfl)
  refine lv_istore_n (lv' := [(2, .int (0 : Int32)), (0, .ref a0), (1, .int x1)]) hx hb dX10_guesses_1 rfl hl (by decide) rfl (fun ls hl => ?_)
  exact J2 _ (0 : Int32) _ _ _ (Nat.lt_succ_self _) (iv_w (iv_c (x := (0 : Int32)) (k := 0) (by decide)) (by decide)) hT hS (lv_sub hl [1, 2, 0] rfl)
set_option maxHeartbeats 4000000 in
set_option maxRecDepth 100000 in
theorem t_X10_guessesTruly (l : Launch) {D : va_G} {c0 : Nat → ClassId} {Y : Nat → Option Nat} {ν : Nat → Nat} {H : Heap} (hT : TI D vwCl (tysOf c0) (RTg ν) Y H) {a0 : Nat} (ha0 : Y a0 = some 10) {x1 : Int32} (hx1 : iv x1 0 7) (hU : uq Y) : Met l yX10_guessesTruly (wz yX10_guessesTruly cX10_guessesTruly 3 none) { frames := 2, cells := 0, slots := 0, locals := 43 } (TP D vwCl (tysOf c0) H [.ref a0, .int x1]) (TQv (fun H' => TI D vwCl (tysOf c0) (RTg ν) Y H') Y [29]) 0 0 (pW Y [29]) := by
  refine Met.ofW (cc := cX10_guessesTruly) (maxL := 3) (ret := none) (by decide) rfl ?_
  intro p e s m args below meth c s₁ B hml hv
  obtain ⟨rfl, rfl, hK⟩ := hv
  have hx := B.exec
  have hb := B.bytes
  have hr := B.returns
  have hts : ∀ w ∈ wq, w.before _ s = true := fun w h => atoms_spec (ws := wz yX10_guessesTruly cX10_guessesTruly 3 none) B.pre w (List.mem_cons_of_mem _ h)
  have hown : s.vm.findClass RX10 = some m.cls := findClass_of_methodNamed B.named
  have hlocks := B.notSynchronized
  obtain ⟨R, hR⟩ : ∃ R : Room, R = ({ frames := 2, cells := 0, slots := 0, locals := 43 } : Room) := ⟨_, rfl⟩
  rw [show (headSpec (wz yX10_guessesTruly cX10_guessesTruly 3 none) { frames := 2, cells := 0, slots := 0, locals := 43 }).room = R from hR.symm]
  refine ti_mv hx hb hr hlocks (fun Q ret => ?_)
  have hl := lv_entry [.ref a0, .int x1] (n := 3) (Nat.le_of_ble_eq_true rfl)
  rw [lg_entry_eq]
  generalize (lg_sl [.ref a0, .int x1] ++ List.replicate (3 - (lg_sl [.ref a0, .int x1]).length) Slot.unset).toArray = ls at hl ⊢
  have hl : lv_has ls 3 [(0, .ref a0), (1, .int x1)] := hl
  refine ti_gen (P := fun H => TI D vwCl (tysOf c0) (RTg ν) Y H) (Y := Y) (ws := [29]) hT (fun H locs hT hS => ?_)
  refine lv_iconst (v := 0) hx hb dX10_guessesTruly_0 (by decide) ?_
  have J2 : ∀ (n : Nat) (j2_L2 : Int32) (H : Heap) (locs : List Loc) (ls : Array Slot), (8 - j2_L2.toInt).toNat < n → iv j2_L2 0 8 → TI D vwCl (tysOf c0) (RTg ν) Y H → va_S (pW Y [29]) s.heap H locs → lv_has ls 3 [(0, .ref a0), (1, .int x1), (2, .int j2_L2)] → W p l e R s m ([.ref a0, .int x1] : List Value).toArray below meth c H locs 0 0 Q (F0 m 2 ls []) := by
    intro n
    induction n with
    | zero => intro j2_L2 H locs ls hms; exact absurd hms (Nat.not_lt_zero _)
    | succ n ih2 =>
      intro j2_L2 H locs ls hms2 hj2_L2 hT hS hl
      refine lv_iload_n hx hb dX10_guessesTruly_2 rfl (lv_at hl 2 rfl) ?_
      refine lv_aload_n hx hb dX10_guessesTruly_3 rfl (lv_at hl 0 rfl) ?_
      refine ti_calli (va_runV (As := []) (rest := [.int j2_L2]) ⟨hx, hb, hml, hown, hts⟩ (t_X10_people l hT ha0 hU) (cwV 0 hts (good_V kw_605 kw_606 kw_607 kw_5 kw_608) rfl rfl rfl (by decide +kernel) ⟨by rw [hR]; decide, by rw [hR]; decide⟩) (ti_preV hK hT ha0 rfl rfl) rfl rfl hl.1 rfl (lv_room (Nat.le_of_ble_eq_true rfl)) dX10_guessesTruly_4 ⟨Nat.zero_le _, Nat.zero_le _⟩) hS (pW_sub rfl) (fun v4 H1 locs hB hS _ hk4 => ?_)
      obtain ⟨hH, hv4, hp4⟩ := hB
      rw [hH] at hS ⊢
      refine lv_icmp_ge (tgt := 36) hx hb dX10_guessesTruly_7 (by decide) (fun c7 => ?_) (fun c7 => ?_)
      · skip
        have f7 := i_le c7
        exact ret _ _ _ _ dX10_guessesTruly_36 (hT) hS
      · skip
        have f7 := i_nle c7
        have hj2_L2_7l : iv j2_L2 0 7 := iv_ltl hj2_L2 hv4 (Int32.not_le.mp c7) (by decide)
        have hv4_7r : iv v4 1 8 := iv_ltr hj2_L2_7l hv4 (Int32.not_le.mp c7) (by decide)
        refine lv_aload_n hx hb dX10_guessesTruly_10 rfl (lv_at hl 0 rfl) ?_
        refine ti_getr hx hb hts inlX10 hown hK hT ha0 rfl rfl rfl 20 (by decide) (hts _ kw_140) (fun _ h9 => h9) rfl dX10_guessesTruly_11 (fun v11 hv11 hm11 => ?_)
        refine lv_iload_n hx hb dX10_guessesTruly_14 rfl (lv_at hl 2 rfl) ?_
        refine lv_iload_n hx hb dX10_guessesTruly_15 rfl (lv_at hl 2 rfl) ?_
        refine lv_iload_n hx hb dX10_guessesTruly_16 rfl (lv_at hl 1 rfl) ?_
        have J29 : ∀ (j29_S2 : Int32) (H : Heap) (locs : List Loc) (ls : Array Slot), iv j29_S2 (-2147483648) 2147483647 → TI D vwCl (tysOf c0) (RTg ν) Y H → va_S (pW Y [29]) s.heap H locs → lv_has ls 3 [(0, .ref a0), (1, .int x1), (2, .int j2_L2)] → W p l e R s m ([.ref a0, .int x1] : List Value).toArray below meth c H locs 0 0 Q (F0 m 29 ls [.int j29_S2, .int j2_L2, .ref v11]) := by
          intro j29_S2 H locs ls hj29_S2 hT hS hl
          refine ti_iast hx hb (aT0 hK) hT hS hv11 rfl rfl hj2_L2_7l (by decide) (fun _ _ _ => ⟨_, _, rfl, by decide, by decide⟩) hj29_S2 (fun _ _ => trivial) dX10_guessesTruly_29 (fun H locs hT hS oq29 he29 hk29 => ?_)
          obtain ⟨v30, e30⟩ : ∃ y : Int32, y = j2_L2 + 1 := ⟨_, rfl⟩
          have hv30 : iv v30 1 8 := by rw [e30]; exact iv_w (iv_add hj2_L2_7l (iv_c (x := (1 : Int32)) (k := 1) (by decide)) (by decide)) (by decide)
          have s30 : v30.toInt = j2_L2.toInt + 1 := by rw [e30, iv_addE hj2_L2_7l (iv_c (x := (1 : Int32)) (k := 1) (by decide)) (by decide)]; rfl
          refine lv_iinc (v := v30) (lv' := [(2, .int v30), (0, .ref a0), (1, .int x1)]) hx hb dX10_guessesTruly_30 hl (k := 2) rfl (by rw [e30]; rfl) (by decide) rfl (fun ls hl => ?_)
          refine lv_goto (tgt := 2) hx hb dX10_guessesTruly_33 (by decide) ?_
          exact ih2 v30 _ _ _ (ms_up hms2 (by have := s30; omega) (iv_w (c := 1) (d := 8) hv30 (by decide)).2) (iv_w hv30 (by decide)) hT hS (lv_sub hl [1, 2, 0] rfl)
        refine lv_icmp_ne (tgt := 24) hx hb dX10_guessesTruly_17 (by decide) (fun c17 => ?_) (fun c17 => ?_)
        · skip
          have f17 := i_ne c17
          refine lv_aload_n hx hb dX10_guessesTruly_24 rfl (lv_at hl 0 rfl) ?_
          refine lv_iload_n hx hb dX10_guessesTruly_25 rfl (lv_at hl 2 rfl) ?_
          refine ti_calli (va_runV (As := [.int j2_L2]) (rest := [.int j2_L2, .ref v11]) ⟨hx, hb, hml, hown, hts⟩ (t_X10_shown l hT ha0 (iv_w hj2_L2_7l (by decide)) hU) (cwV 1 hts (good_V kw_553 kw_554 kw_555 kw_5 kw_556) rfl rfl rfl (by decide +kernel) ⟨by rw [hR]; decide, by rw [hR]; decide⟩) (ti_preV hK hT ha0 rfl rfl) rfl rfl hl.1 rfl (lv_room (Nat.le_of_ble_eq_true rfl)) dX10_guessesTruly_26 ⟨Nat.zero_le _, Nat.zero_le _⟩) hS (pW_sub rfl) (fun v26 H1 locs hB hS _ hk26 => ?_)
          have hH := hB
          rw [hH] at hS ⊢
          exact J29 v26 _ _ _  (iv_w (iv_top v26) (by decide)) hT hS (lv_sub hl [0, 1, 2] rfl)
        · skip
          have f17 := i_eq c17
          refine lv_iconst (v := 0) hx hb dX10_guessesTruly_20 (by decide) ?_
          refine lv_goto (tgt := 29) hx hb dX10_guessesTruly_21 (by decide) ?_
          exact J29 (0 : Int32) _ _ _  (iv_w (iv_c (x := (0 : Int32)) (k := 0) (by decide)) (by decide)) hT hS (lv_sub hl [0, 1, 2] rfl)
  refine lv_istore_n (lv' := [(2, .int (0 : Int32)), (0, .ref a0), (1, .int x1)]) hx hb dX10_guessesTruly_1 rfl hl (by decide) rfl (fun ls hl => ?_)
  exact J2 _ (0 : Int32) _ _ _ (Nat.lt_succ_self _) (iv_w (iv_c (x := (0 : Int32)) (k := 0) (by decide)) (by decide)) hT hS (lv_sub hl [1, 2, 0] rfl)
set_option maxHeartbeats 4000000 in
set_option maxRecDepth 100000 in
theorem t_X10_shownThen (l : Launch) {D : va_G} {c0 : Nat → ClassId} {Y : Nat → Option Nat} {ν : Nat → Nat} {H : Heap} (hT : TI D vwCl (tysOf c0) (RTg ν) Y H) {a0 : Nat} (ha0 : Y a0 = some 10) {x1 : Int32} (hx1 : iv x1 0 7) {x2 : Int32} (hx2 : iv x2 0 7) (hU : uq Y) : Met l yX10_shownThen (wz yX10_shownThen cX10_shownThen 3 (some .int)) { frames := 0, cells := 0, slots := 0, locals := 0 } (TP D vwCl (tysOf c0) H [.ref a0, .int x1, .int x2]) (TQi (fun x H' => H' = H) Y []) 0 0 (pW Y []) := by
  refine Met.ofW (cc := cX10_shownThen) (maxL := 3) (ret := (some .int)) (by decide) rfl ?_
  intro p e s m args below meth c s₁ B hml hv
  obtain ⟨rfl, rfl, hK⟩ := hv
  have hx := B.exec
  have hb := B.bytes
  have hr := B.returns
  have hts : ∀ w ∈ wq, w.before _ s = true := fun w h => atoms_spec (ws := wz yX10_shownThen cX10_shownThen 3 (some .int)) B.pre w (List.mem_cons_of_mem _ h)
  have hown : s.vm.findClass RX10 = some m.cls := findClass_of_methodNamed B.named
  have hlocks := B.notSynchronized
  obtain ⟨R, hR⟩ : ∃ R : Room, R = ({ frames := 0, cells := 0, slots := 0, locals := 0 } : Room) := ⟨_, rfl⟩
  rw [show (headSpec (wz yX10_shownThen cX10_shownThen 3 (some .int)) { frames := 0, cells := 0, slots := 0, locals := 0 }).room = R from hR.symm]
  refine ti_mi hx hb hr hlocks (fun Q ret => ?_)
  have hl := lv_entry [.ref a0, .int x1, .int x2] (n := 3) (Nat.le_of_ble_eq_true rfl)
  rw [lg_entry_eq]
  generalize (lg_sl [.ref a0, .int x1, .int x2] ++ List.replicate (3 - (lg_sl [.ref a0, .int x1, .int x2]).length) Slot.unset).toArray = ls at hl ⊢
  have hl : lv_has ls 3 [(0, .ref a0), (1, .int x1), (2, .int x2)] := hl
  have hS : va_S (pW Y []) s.heap s.heap [] := va_S.rf
  refine lv_iload_n hx hb dX10_shownThen_0 rfl (lv_at hl 2 rfl) ?_
  refine lv_iload_n hx hb dX10_shownThen_1 rfl (lv_at hl 1 rfl) ?_
  refine lv_icmp_ne (tgt := 19) hx hb dX10_shownThen_2 (by decide) (fun c2 => ?_) (fun c2 => ?_)
  · skip
    have f2 := i_ne c2
    refine lv_aload_n hx hb dX10_shownThen_19 rfl (lv_at hl 0 rfl) ?_
    refine ti_getr hx hb hts inlX10 hown hK hT ha0 rfl rfl rfl 21 (by decide) (hts _ kw_141) (fun _ h9 => h9) rfl dX10_shownThen_20 (fun v20 hv20 hm20 => ?_)
    refine lv_iload_n hx hb dX10_shownThen_23 rfl (lv_at hl 2 rfl) ?_
    refine ti_iald (lo := (-2147483648)) (hi := 2147483647) hx hb (aT0 hK) hT hv20 rfl hx2 (by decide) (fun _ _ _ => ⟨_, _, rfl, by decide, by decide⟩) dX10_shownThen_24 (fun v24 hv24 hm24 => ?_)
    exact ret _ _ _ _ _ dX10_shownThen_25 (rfl) hS
  · skip
    have f2 := i_eq c2
    refine lv_aload_n hx hb dX10_shownThen_5 rfl (lv_at hl 0 rfl) ?_
    refine ti_getr hx hb hts inlX10 hown hK hT ha0 rfl rfl rfl 21 (by decide) (hts _ kw_141) (fun _ h9 => h9) rfl dX10_shownThen_6 (fun v6 hv6 hm6 => ?_)
    refine lv_iload_n hx hb dX10_shownThen_9 rfl (lv_at hl 2 rfl) ?_
    refine ti_iald (lo := (-2147483648)) (hi := 2147483647) hx hb (aT0 hK) hT hv6 rfl hx2 (by decide) (fun _ _ _ => ⟨_, _, rfl, by decide, by decide⟩) dX10_shownThen_10 (fun v10 hv10 hm10 => ?_)
    refine lv_aload_n hx hb dX10_shownThen_11 rfl (lv_at hl 0 rfl) ?_
    refine ti_geti hx hb hts inlX10 hown hK hT ha0 rfl rfl rfl 22 (by decide) (hts _ kw_969) (fun _ h9 => h9) rfl dX10_shownThen_12 (fun v12 hv12 hm12 => ?_)
    refine lv_isub hx hb dX10_shownThen_15 ?_
    refine lv_topi (fun v15 e15 => ?_)
    have hv15 : iv v15 (-2147483648) 2147483647 := iv_top _
    refine lv_goto (tgt := 25) hx hb dX10_shownThen_16 (by decide) ?_
    exact ret _ _ _ _ _ dX10_shownThen_25 (rfl) hS
set_option maxHeartbeats 4000000 in
set_option maxRecDepth 100000 in
theorem t_X10_holdsThen (l : Launch) {D : va_G} {c0 : Nat → ClassId} {Y : Nat → Option Nat} {ν : Nat → Nat} {H : Heap} (hT : TI D vwCl (tysOf c0) (RTg ν) Y H) {a0 : Nat} (ha0 : Y a0 = some 10) {x1 : Int32} (hx1 : iv x1 0 7) {x2 : Int32} (hx2 : iv x2 0 7) {x3 : Int32} (hx3 : iv x3 (-2147483648) 2147483647) (hU : uq Y) : Met l yX10_holdsThen (wz yX10_holdsThen cX10_holdsThen 4 none) { frames := 1, cells := 0, slots := 0, locals := 60 } (TP D vwCl (tysOf c0) H [.ref a0, .int x1, .int x2, .int x3]) (TQv (fun H' => TI D vwCl (tysOf c0) (RTg ν) Y H') Y [10, 29]) 0 0 (pW Y [10, 29]) := by
  refine Met.ofW (cc := cX10_holdsThen) (maxL := 4) (ret := none) (by decide) rfl ?_
  intro p e s m args below meth c s₁ B hml hv
  obtain ⟨rfl, rfl, hK⟩ := hv
  have hx := B.exec
  have hb := B.bytes
  have hr := B.returns
  have hts : ∀ w ∈ wq, w.before _ s = true := fun w h => atoms_spec (ws := wz yX10_holdsThen cX10_holdsThen 4 none) B.pre w (List.mem_cons_of_mem _ h)
  have hown : s.vm.findClass RX10 = some m.cls := findClass_of_methodNamed B.named
  have hlocks := B.notSynchronized
  obtain ⟨R, hR⟩ : ∃ R : Room, R = ({ frames := 1, cells := 0, slots := 0, locals := 60 } : Room) := ⟨_, rfl⟩
  rw [show (headSpec (wz yX10_holdsThen cX10_holdsThen 4 none) { frames := 1, cells := 0, slots := 0, locals := 60 }).room = R from hR.symm]
  refine ti_mv hx hb hr hlocks (fun Q ret => ?_)
  have hl := lv_entry [.ref a0, .int x1, .int x2, .int x3] (n := 4) (Nat.le_of_ble_eq_true rfl)
  rw [lg_entry_eq]
  generalize (lg_sl [.ref a0, .int x1, .int x2, .int x3] ++ List.replicate (4 - (lg_sl [.ref a0, .int x1, .int x2, .int x3]).length) Slot.unset).toArray = ls at hl ⊢
  have hl : lv_has ls 4 [(0, .ref a0), (1, .int x1), (2, .int x2), (3, .int x3)] := hl
  refine ti_gen (P := fun H => TI D vwCl (tysOf c0) (RTg ν) Y H) (Y := Y) (ws := [10, 29]) hT (fun H locs hT hS => ?_)
  refine lv_aload_n hx hb dX10_holdsThen_0 rfl (lv_at hl 0 rfl) ?_
  refine ti_getr hx hb hts inlX10 hown hK hT ha0 rfl rfl rfl 21 (by decide) (hts _ kw_141) (fun _ h9 => h9) rfl dX10_holdsThen_1 (fun v1 hv1 hm1 => ?_)
  refine lv_iload_n hx hb dX10_holdsThen_4 rfl (lv_at hl 2 rfl) ?_
  refine lv_aload_n hx hb dX10_holdsThen_5 rfl (lv_at hl 0 rfl) ?_
  refine ti_getr hx hb hts inlX10 hown hK hT ha0 rfl rfl rfl 1 (by decide) (hts _ kw_130) (fun _ h9 => h9) rfl dX10_holdsThen_6 (fun v6 hv6 hm6 => ?_)
  refine lv_iconst (v := 1) hx hb dX10_holdsThen_9 (by decide) ?_
  refine ti_iald (lo := (-2147483648)) (hi := 100000) hx hb (aT0 hK) hT hv6 rfl (iv_c (x := (1 : Int32)) (k := 1) (by decide)) (by decide) (one_j 1 rfl rfl (by decide) (by decide)) dX10_holdsThen_10 (fun v10 hv10 hm10 => ?_)
  refine lv_iload_n hx hb dX10_holdsThen_11 rfl (lv_at hl 3 rfl) ?_
  refine va_mmin hx hb (by rw [hml]; exact hl.1.symm) hown (hts _ kw_394) (hts _ kw_211) (hts _ kw_212) (hts _ kw_213) (by rw [hR]; decide) (by rw [hR]; exact Nat.le_of_ble_eq_true rfl) (Nat.zero_le _) (Nat.zero_le _) dX10_holdsThen_12 ?_
  refine lv_topi (fun v12 e12 => ?_)
  have hv12 : iv v12 (-2147483648) 100000 := by rw [e12]; exact iv_min hv10 hx3 (by decide)
  refine ti_iast hx hb (aT0 hK) hT hS hv1 rfl rfl hx2 (by decide) (fun _ _ _ => ⟨_, _, rfl, by decide, by decide⟩) hv12 (fun _ _ => trivial) dX10_holdsThen_15 (fun H locs hT hS oq15 he15 hk15 => ?_)
  refine lv_iload_n hx hb dX10_holdsThen_16 rfl (lv_at hl 2 rfl) ?_
  refine lv_iload_n hx hb dX10_holdsThen_17 rfl (lv_at hl 1 rfl) ?_
  refine lv_icmp_ne (tgt := 38) hx hb dX10_holdsThen_18 (by decide) (fun c18 => ?_) (fun c18 => ?_)
  · skip
    have f18 := i_ne c18
    exact ret _ _ _ _ dX10_holdsThen_38 (hT) hS
  · skip
    have f18 := i_eq c18
    refine lv_aload_n hx hb dX10_holdsThen_21 rfl (lv_at hl 0 rfl) ?_
    refine lv_aload_n hx hb dX10_holdsThen_22 rfl (lv_at hl 0 rfl) ?_
    refine ti_geti hx hb hts inlX10 hown hK hT ha0 rfl rfl rfl 22 (by decide) (hts _ kw_969) (fun _ h9 => h9) rfl dX10_holdsThen_23 (fun v23 hv23 hm23 => ?_)
    refine lv_aload_n hx hb dX10_holdsThen_26 rfl (lv_at hl 0 rfl) ?_
    refine ti_getE (ci := 10) (v := .ref v1) hx hb hts inlX10 hown hK (hm1.kept (oq15 _ (ne_r ha0 hv1 rfl))) rfl (by decide) (hts _ kw_141) (fun _ h9 => h9) dX10_holdsThen_27 ?_
    refine lv_iload_n hx hb dX10_holdsThen_30 rfl (lv_at hl 2 rfl) ?_
    refine ti_ialdE (v := .int v12) hx hb (aT0 hK) hT hv1 rfl hx2 (by decide) (he15) dX10_holdsThen_31 ?_
    refine va_mmin hx hb (by rw [hml]; exact hl.1.symm) hown (hts _ kw_394) (hts _ kw_211) (hts _ kw_212) (hts _ kw_213) (by rw [hR]; decide) (by rw [hR]; exact Nat.le_of_ble_eq_true rfl) (Nat.zero_le _) (Nat.zero_le _) dX10_holdsThen_32 ?_
    refine lv_topi (fun v32 e32 => ?_)
    have hv32 : iv v32 (-2147483648) 100000 := by rw [e32]; exact iv_min hv23 hv12 (by decide)
    refine ti_put (ty := .int) hx hb hts inlX10 tyX10 tyX10_ok nmX10 hown hK hT hS ha0 rfl rfl rfl rfl 22 (by decide) (hts _ kw_969) (fun _ h9 => h9) rfl rfl (by decide +kernel) rfl rfl ⟨v32, rfl, iv_w hv32 (by decide)⟩ (fun _ _ => trivial) dX10_holdsThen_35 (fun H locs hT hS oq35 he35 hk35 => ?_)
    exact ret _ _ _ _ dX10_holdsThen_38 (hT) hS
set_option maxHeartbeats 4000000 in
set_option maxRecDepth 100000 in
theorem t_X10_liftsThen (l : Launch) {D : va_G} {c0 : Nat → ClassId} {Y : Nat → Option Nat} {ν : Nat → Nat} {H : Heap} (hT : TI D vwCl (tysOf c0) (RTg ν) Y H) {a0 : Nat} (ha0 : Y a0 = some 10) {x1 : Int32} (hx1 : iv x1 0 7) (hU : uq Y) : Met l yX10_liftsThen (wz yX10_liftsThen cX10_liftsThen 8 none) { frames := 2, cells := 0, slots := 0, locals := 83 } (TP D vwCl (tysOf c0) H [.ref a0, .int x1]) (TQv (fun H' => TI D vwCl (tysOf c0) (RTg ν) Y H') Y [10, 29]) 0 0 (pW Y [10, 29]) := by
  refine Met.ofW (cc := cX10_liftsThen) (maxL := 8) (ret := none) (by decide) rfl ?_
  intro p e s m args below meth c s₁ B hml hv
  obtain ⟨rfl, rfl, hK⟩ := hv
  have hx := B.exec
  have hb := B.bytes
  have hr := B.returns
  have hts : ∀ w ∈ wq, w.before _ s = true := fun w h => atoms_spec (ws := wz yX10_liftsThen cX10_liftsThen 8 none) B.pre w (List.mem_cons_of_mem _ h)
  have hown : s.vm.findClass RX10 = some m.cls := findClass_of_methodNamed B.named
  have hlocks := B.notSynchronized
  obtain ⟨R, hR⟩ : ∃ R : Room, R = ({ frames := 2, cells := 0, slots := 0, locals := 83 } : Room) := ⟨_, rfl⟩
  rw [show (headSpec (wz yX10_liftsThen cX10_liftsThen 8 none) { frames := 2, cells := 0, slots := 0, locals := 83 }).room = R from hR.symm]
  refine ti_mv hx hb hr hlocks (fun Q ret => ?_)
  have hl := lv_entry [.ref a0, .int x1] (n := 8) (Nat.le_of_ble_eq_true rfl)
  rw [lg_entry_eq]
  generalize (lg_sl [.ref a0, .int x1] ++ List.replicate (8 - (lg_sl [.ref a0, .int x1]).length) Slot.unset).toArray = ls at hl ⊢
  have hl : lv_has ls 8 [(0, .ref a0), (1, .int x1)] := hl
  refine ti_gen (P := fun H => TI D vwCl (tysOf c0) (RTg ν) Y H) (Y := Y) (ws := [10, 29]) hT (fun H locs hT hS => ?_)
  refine lv_sipush (v := 1000) hx hb dX10_liftsThen_0 (by decide) ?_
  refine lv_istore_n (lv' := [(2, .int (1000 : Int32)), (0, .ref a0), (1, .int x1)]) hx hb dX10_liftsThen_3 rfl hl (by decide) rfl (fun ls hl => ?_)
  refine lv_iconst (v := 0) hx hb dX10_liftsThen_4 (by decide) ?_
  have J6 : ∀ (n : Nat) (j6_L2 : Int32) (j6_L3 : Int32) (H : Heap) (locs : List Loc) (ls : Array Slot), (8 - j6_L3.toInt).toNat < n → iv j6_L2 (-2147483648) 1000 → iv j6_L3 0 8 → TI D vwCl (tysOf c0) (RTg ν) Y H → va_S (pW Y [10, 29]) s.heap H locs → lv_has ls 8 [(0, .ref a0), (1, .int x1), (2, .int j6_L2), (3, .int j6_L3)] → W p l e R s m ([.ref a0, .int x1] : List Value).toArray below meth c H locs 0 0 Q (F0 m 6 ls []) := by
    intro n
    induction n with
    | zero => intro j6_L2 j6_L3 H locs ls hms; exact absurd hms (Nat.not_lt_zero _)
    | succ n ih6 =>
      intro j6_L2 j6_L3 H locs ls hms6 hj6_L2 hj6_L3 hT hS hl
      refine lv_iload_n hx hb dX10_liftsThen_6 rfl (lv_at hl 3 rfl) ?_
      refine lv_aload_n hx hb dX10_liftsThen_7 rfl (lv_at hl 0 rfl) ?_
      refine ti_calli (va_runV (As := []) (rest := [.int j6_L3]) ⟨hx, hb, hml, hown, hts⟩ (t_X10_people l hT ha0 hU) (cwV 0 hts (good_V kw_605 kw_606 kw_607 kw_5 kw_608) rfl rfl rfl (by decide +kernel) ⟨by rw [hR]; decide, by rw [hR]; decide⟩) (ti_preV hK hT ha0 rfl rfl) rfl rfl hl.1 rfl (lv_room (Nat.le_of_ble_eq_true rfl)) dX10_liftsThen_8 ⟨Nat.zero_le _, Nat.zero_le _⟩) hS (pW_sub rfl) (fun v8 H1 locs hB hS _ hk8 => ?_)
      obtain ⟨hH, hv8, hp8⟩ := hB
      rw [hH] at hS ⊢
      refine lv_icmp_ge (tgt := 31) hx hb dX10_liftsThen_11 (by decide) (fun c11 => ?_) (fun c11 => ?_)
      · skip
        have f11 := i_le c11
        refine lv_sipush (v := 1000) hx hb dX10_liftsThen_31 (by decide) ?_
        refine lv_istore_n (lv' := [(3, .int (1000 : Int32)), (0, .ref a0), (1, .int x1), (2, .int j6_L2)]) hx hb dX10_liftsThen_34 rfl hl (by decide) rfl (fun ls hl => ?_)
        refine lv_iconst (v := 0) hx hb dX10_liftsThen_35 (by decide) ?_
        refine lv_istore (lv' := [(4, .int (0 : Int32)), (3, .int (1000 : Int32)), (0, .ref a0), (1, .int x1), (2, .int j6_L2)]) hx hb dX10_liftsThen_36 hl (by decide) rfl (fun ls hl => ?_)
        refine lv_iconst (v := (-1)) hx hb dX10_liftsThen_38 (by decide) ?_
        refine lv_istore (lv' := [(5, .int (-1 : Int32)), (4, .int (0 : Int32)), (3, .int (1000 : Int32)), (0, .ref a0), (1, .int x1), (2, .int j6_L2)]) hx hb dX10_liftsThen_39 hl (by decide) rfl (fun ls hl => ?_)
        refine lv_iconst (v := 0) hx hb dX10_liftsThen_41 (by decide) ?_
        have J44 : ∀ (n : Nat) (j44_L3 : Int32) (j44_L4 : Int32) (j44_L5 : Int32) (j44_L6 : Int32) (H : Heap) (locs : List Loc) (ls : Array Slot), (8 - j44_L6.toInt).toNat < n → iv j44_L3 (-2147483647) 1000 → iv j44_L4 0 9 → iv j44_L5 (-1) 7 → iv j44_L6 0 8 → (j44_L4.toInt ≤ j44_L6.toInt) → (1 ≤ j44_L4.toInt → 0 ≤ j44_L5.toInt ∧ j44_L5.toInt ≤ 7) → TI D vwCl (tysOf c0) (RTg ν) Y H → va_S (pW Y [10, 29]) s.heap H locs → lv_has ls 8 [(0, .ref a0), (1, .int x1), (2, .int j6_L2), (3, .int j44_L3), (4, .int j44_L4), (5, .int j44_L5), (6, .int j44_L6)] → W p l e R s m ([.ref a0, .int x1] : List Value).toArray below meth c H locs 0 0 Q (F0 m 44 ls []) := by
          intro n
          induction n with
          | zero => intro j44_L3 j44_L4 j44_L5 j44_L6 H locs ls hms; exact absurd hms (Nat.not_lt_zero _)
          | succ n ih44 =>
            intro j44_L3 j44_L4 j44_L5 j44_L6 H locs ls hms44 hj44_L3 hj44_L4 hj44_L5 hj44_L6 hT44_0 hI44_0 hT hS hl
            refine lv_iload hx hb dX10_liftsThen_44 (lv_at hl 6 rfl) ?_
            refine lv_aload_n hx hb dX10_liftsThen_46 rfl (lv_at hl 0 rfl) ?_
            refine ti_calli (va_runV (As := []) (rest := [.int j44_L6]) ⟨hx, hb, hml, hown, hts⟩ (t_X10_people l hT ha0 hU) (cwV 0 hts (good_V kw_605 kw_606 kw_607 kw_5 kw_608) rfl rfl rfl (by decide +kernel) ⟨by rw [hR]; decide, by rw [hR]; decide⟩) (ti_preV hK hT ha0 rfl rfl) rfl rfl hl.1 rfl (lv_room (Nat.le_of_ble_eq_true rfl)) dX10_liftsThen_47 ⟨Nat.zero_le _, Nat.zero_le _⟩) hS (pW_sub rfl) (fun v47 H1 locs hB hS _ hk47 => ?_)
            obtain ⟨hH, hv47, hp47⟩ := hB
            rw [hH] at hS ⊢
            refine lv_icmp_ge (tgt := 116) hx hb dX10_liftsThen_50 (by decide) (fun c50 => ?_) (fun c50 => ?_)
            · skip
              have f50 := i_le c50
              refine lv_iload hx hb dX10_liftsThen_116 (lv_at hl 4 rfl) ?_
              refine lv_iconst (v := 1) hx hb dX10_liftsThen_118 (by decide) ?_
              refine lv_icmp_ne (tgt := 129) hx hb dX10_liftsThen_119 (by decide) (fun c119 => ?_) (fun c119 => ?_)
              · skip
                have kl1 : (1 : Int32).toInt = 1 := by decide
                have f119 := i_ne c119
                exact ret _ _ _ _ dX10_liftsThen_129 (hT) hS
              · skip
                have kl1 : (1 : Int32).toInt = 1 := by decide
                have f119 := i_eq c119
                have hj44_L4_119l : iv j44_L4 1 1 := iv_eql hj44_L4 (iv_c (x := (1 : Int32)) (k := 1) (by decide)) c119 (by decide)
                have hq119_25 : iv j44_L5 0 7 := by have := hI44_0; have b0a := (hj44_L4_119l).1; have b0b := (hj44_L4_119l).2; have b1a := (hj44_L5).1; have b1b := (hj44_L5).2; exact ⟨by omega, by omega⟩
                refine lv_iload_n hx hb dX10_liftsThen_122 rfl (lv_at hl 3 rfl) ?_
                refine lv_sipush (v := 1000) hx hb dX10_liftsThen_123 (by decide) ?_
                refine lv_icmp_ne (tgt := 130) hx hb dX10_liftsThen_126 (by decide) (fun c126 => ?_) (fun c126 => ?_)
                · skip
                  have kl1000 : (1000 : Int32).toInt = 1000 := by decide
                  have f126 := i_ne c126
                  have hj44_L3_126l : iv j44_L3 (-2147483647) 999 := iv_nel hj44_L3 (iv_c (x := (1000 : Int32)) (k := 1000) (by decide)) c126 (by decide)
                  refine lv_iload_n hx hb dX10_liftsThen_130 rfl (lv_at hl 3 rfl) ?_
                  refine lv_iload_n hx hb dX10_liftsThen_131 rfl (lv_at hl 2 rfl) ?_
                  refine lv_isub hx hb dX10_liftsThen_132 ?_
                  refine lv_topi (fun v132 e132 => ?_)
                  have hv132 : iv v132 (-2147483648) 2147483647 := iv_top _
                  refine lv_aload_n hx hb dX10_liftsThen_133 rfl (lv_at hl 0 rfl) ?_
                  refine ti_geti hx hb hts inlX10 hown hK hT ha0 rfl rfl rfl 23 (by decide) (hts _ kw_970) (fun _ h9 => h9) rfl dX10_liftsThen_134 (fun v134 hv134 hm134 => ?_)
                  refine va_mmin hx hb (by rw [hml]; exact hl.1.symm) hown (hts _ kw_394) (hts _ kw_211) (hts _ kw_212) (hts _ kw_213) (by rw [hR]; decide) (by rw [hR]; exact Nat.le_of_ble_eq_true rfl) (Nat.zero_le _) (Nat.zero_le _) dX10_liftsThen_137 ?_
                  refine lv_topi (fun v137 e137 => ?_)
                  have hv137 : iv v137 (-2147483648) 2147483647 := by rw [e137]; exact iv_min hv132 hv134 (by decide)
                  refine lv_istore (lv' := [(6, .int v137), (0, .ref a0), (1, .int x1), (2, .int j6_L2), (3, .int j44_L3), (4, .int j44_L4), (5, .int j44_L5)]) hx hb dX10_liftsThen_140 hl (by decide) rfl (fun ls hl => ?_)
                  refine lv_aload_n hx hb dX10_liftsThen_142 rfl (lv_at hl 1 rfl) ?_
                  refine lv_dup hx hb dX10_liftsThen_143 rfl ?_
                  refine ti_getE (ci := 10) (v := .int v134) hx hb hts inlX10 hown hK hm134 rfl (by decide) (hts _ kw_970) (fun _ h9 => h9) dX10_liftsThen_144 ?_
                  refine lv_iload hx hb dX10_liftsThen_147 (lv_at hl 0 rfl) ?_
                  refine lv_isub hx hb dX10_liftsThen_149 ?_
                  refine lv_topi (fun v149 e149 => ?_)
                  have hv149 : iv v149 (-2147483648) 2147483647 := iv_top _
                  refine ti_put (ty := .int) hx hb hts inlX10 tyX10 tyX10_ok nmX10 hown hK hT hS ha0 rfl rfl rfl rfl 23 (by decide) (hts _ kw_970) (fun _ h9 => h9) rfl rfl (by decide +kernel) rfl rfl ⟨v149, rfl, iv_w hv149 (by decide)⟩ (fun _ _ => trivial) dX10_liftsThen_150 (fun H locs hT hS oq150 he150 hk150 => ?_)
                  refine lv_aload_n hx hb dX10_liftsThen_153 rfl (lv_at hl 1 rfl) ?_
                  refine lv_iload_n hx hb dX10_liftsThen_154 rfl (lv_at hl 2 rfl) ?_
                  refine lv_iload hx hb dX10_liftsThen_155 (lv_at hl 6 rfl) ?_
                  refine lv_aload_n hx hb dX10_liftsThen_157 rfl (lv_at hl 1 rfl) ?_
                  refine ti_getr hx hb hts inlX10 hown hK hT ha0 rfl rfl rfl 21 (by decide) (hts _ kw_141) (fun _ h9 => h9) rfl dX10_liftsThen_158 (fun v158 hv158 hm158 => ?_)
                  refine lv_iload hx hb dX10_liftsThen_161 (lv_at hl 6 rfl) ?_
                  refine ti_iald (lo := (-2147483648)) (hi := 2147483647) hx hb (aT0 hK) hT hv158 rfl hq119_25 (by decide) (fun _ _ _ => ⟨_, _, rfl, by decide, by decide⟩) dX10_liftsThen_163 (fun v163 hv163 hm163 => ?_)
                  refine lv_iload hx hb dX10_liftsThen_164 (lv_at hl 0 rfl) ?_
                  refine lv_iadd hx hb dX10_liftsThen_166 ?_
                  refine lv_topi (fun v166 e166 => ?_)
                  have hv166 : iv v166 (-2147483648) 2147483647 := iv_top _
                  refine ti_callv (va_runV (As := [.int x1, .int j44_L5, .int v166]) (rest := []) ⟨hx, hb, hml, hown, hts⟩ (t_X10_holdsThen l hT ha0 (iv_w hx1 (by decide)) (iv_w hq119_25 (by decide)) (iv_w hv166 (by decide)) hU) (cwV 3 hts (good_V kw_971 kw_972 kw_973 kw_5 kw_974) rfl rfl rfl (by decide +kernel) ⟨by rw [hR]; decide, by rw [hR]; decide⟩) (ti_preV hK hT ha0 rfl rfl) rfl rfl hl.1 rfl (lv_room (Nat.le_of_ble_eq_true rfl)) dX10_liftsThen_167 ⟨Nat.zero_le _, Nat.zero_le _⟩) hS (pW_sub rfl) (fun H locs hB hS _ hk167 => ?_)
                  have hT := hB
                  exact ret _ _ _ _ dX10_liftsThen_170 (hT) hS
                · skip
                  have kl1000 : (1000 : Int32).toInt = 1000 := by decide
                  have f126 := i_eq c126
                  have hj44_L3_126l : iv j44_L3 1000 1000 := iv_eql hj44_L3 (iv_c (x := (1000 : Int32)) (k := 1000) (by decide)) c126 (by decide)
                  exact ret _ _ _ _ dX10_liftsThen_129 (hT) hS
            · skip
              have f50 := i_nle c50
              have hj44_L6_50l : iv j44_L6 0 7 := iv_ltl hj44_L6 hv47 (Int32.not_le.mp c50) (by decide)
              have hv47_50r : iv v47 1 8 := iv_ltr hj44_L6_50l hv47 (Int32.not_le.mp c50) (by decide)
              refine lv_aload_n hx hb dX10_liftsThen_53 rfl (lv_at hl 0 rfl) ?_
              refine lv_iload_n hx hb dX10_liftsThen_54 rfl (lv_at hl 1 rfl) ?_
              refine lv_iload hx hb dX10_liftsThen_55 (lv_at hl 6 rfl) ?_
              refine ti_calli (va_runV (As := [.int x1, .int j44_L6]) (rest := []) ⟨hx, hb, hml, hown, hts⟩ (t_X10_shownThen l hT ha0 (iv_w hx1 (by decide)) (iv_w hj44_L6_50l (by decide)) hU) (cwV 2 hts (good_V kw_979 kw_980 kw_981 kw_5 kw_982) rfl rfl rfl (by decide +kernel) ⟨by rw [hR]; decide, by rw [hR]; decide⟩) (ti_preV hK hT ha0 rfl rfl) rfl rfl hl.1 rfl (lv_room (Nat.le_of_ble_eq_true rfl)) dX10_liftsThen_57 ⟨Nat.zero_le _, Nat.zero_le _⟩) hS (pW_sub rfl) (fun v57 H1 locs hB hS _ hk57 => ?_)
              have hH := hB
              rw [hH] at hS ⊢
              refine lv_istore (lv' := [(7, .int v57), (0, .ref a0), (1, .int x1), (2, .int j6_L2), (3, .int j44_L3), (4, .int j44_L4), (5, .int j44_L5), (6, .int j44_L6)]) hx hb dX10_liftsThen_60 hl (by decide) rfl (fun ls hl => ?_)
              refine lv_iload hx hb dX10_liftsThen_62 (lv_at hl 0 rfl) ?_
              refine lv_iload_n hx hb dX10_liftsThen_64 rfl (lv_at hl 3 rfl) ?_
              have J78 : ∀ (j78_S0 : Int32) (H : Heap) (locs : List Loc) (ls : Array Slot), iv j78_S0 (-2147483647) 1000 → TI D vwCl (tysOf c0) (RTg ν) Y H → va_S (pW Y [10, 29]) s.heap H locs → lv_has ls 8 [(0, .ref a0), (1, .int x1), (2, .int j6_L2), (3, .int j44_L3), (4, .int j44_L4), (5, .int j44_L5), (6, .int j44_L6), (7, .int v57)] → W p l e R s m ([.ref a0, .int x1] : List Value).toArray below meth c H locs 0 0 Q (F0 m 78 ls [.int j78_S0]) := by
                intro j78_S0 H locs ls hj78_S0 hT hS hl
                refine lv_istore_n (lv' := [(3, .int j78_S0), (0, .ref a0), (1, .int x1), (2, .int j6_L2), (4, .int j44_L4), (5, .int j44_L5), (6, .int j44_L6), (7, .int v57)]) hx hb dX10_liftsThen_78 rfl hl (by decide) rfl (fun ls hl => ?_)
                refine lv_iload hx hb dX10_liftsThen_79 (lv_at hl 4 rfl) ?_
                refine lv_iload hx hb dX10_liftsThen_81 (lv_at hl 7 rfl) ?_
                refine lv_iload_n hx hb dX10_liftsThen_83 rfl (lv_at hl 3 rfl) ?_
                have J92 : ∀ (j92_S1 : Int32) (H : Heap) (locs : List Loc) (ls : Array Slot), iv j92_S1 0 1 → (1 ≤ j92_S1.toInt → v57.toInt = j6_L2.toInt) → TI D vwCl (tysOf c0) (RTg ν) Y H → va_S (pW Y [10, 29]) s.heap H locs → lv_has ls 8 [(0, .ref a0), (1, .int x1), (2, .int j6_L2), (3, .int j78_S0), (4, .int j44_L4), (5, .int j44_L5), (6, .int j44_L6), (7, .int v57)] → W p l e R s m ([.ref a0, .int x1] : List Value).toArray below meth c H locs 0 0 Q (F0 m 92 ls [.int j92_S1, .int j44_L4]) := by
                  intro j92_S1 H locs ls hj92_S1 hT92_0 hT hS hl
                  have hh92_26 : iv j44_L4 0 8 := by have b0a := (hx1).1; have b0b := (hx1).2; have b1a := (hj6_L2).1; have b1b := (hj6_L2).2; have b2a := (hj6_L3).1; have b2b := (hj6_L3).2; have b3a := (hv8).1; have b3b := (hv8).2; have b4a := (hj44_L3).1; have b4b := (hj44_L3).2; have b5a := (hj44_L4).1; have b5b := (hj44_L4).2; have b6a := (hj44_L5).1; have b6b := (hj44_L5).2; have b7a := (hj44_L6_50l).1; have b7b := (hj44_L6_50l).2; have b8a := (hv47_50r).1; have b8b := (hv47_50r).2; have b9a := ((iv_top v57)).1; have b9b := ((iv_top v57)).2; have b10a := (hj78_S0).1; have b10b := (hj78_S0).2; have b11a := (hj92_S1).1; have b11b := (hj92_S1).2; exact ⟨by omega, by omega⟩
                  refine lv_iadd hx hb dX10_liftsThen_92 ?_
                  refine lv_topi (fun v92 e92 => ?_)
                  have hv92 : iv v92 0 9 := by rw [e92]; exact iv_w (iv_add hh92_26 hj92_S1 (by decide)) (by decide)
                  have s92 : v92.toInt = j44_L4.toInt + j92_S1.toInt := by rw [e92]; exact iv_addE hh92_26 hj92_S1 (by decide)
                  refine lv_istore (lv' := [(4, .int v92), (0, .ref a0), (1, .int x1), (2, .int j6_L2), (3, .int j78_S0), (5, .int j44_L5), (6, .int j44_L6), (7, .int v57)]) hx hb dX10_liftsThen_93 hl (by decide) rfl (fun ls hl => ?_)
                  refine lv_iload hx hb dX10_liftsThen_95 (lv_at hl 7 rfl) ?_
                  refine lv_iload_n hx hb dX10_liftsThen_97 rfl (lv_at hl 3 rfl) ?_
                  have J108 : ∀ (j108_S0 : Int32) (H : Heap) (locs : List Loc) (ls : Array Slot), iv j108_S0 (-1) 7 → (v57.toInt = j6_L2.toInt → 0 ≤ j108_S0.toInt) → (0 ≤ j44_L5.toInt → 0 ≤ j108_S0.toInt) → TI D vwCl (tysOf c0) (RTg ν) Y H → va_S (pW Y [10, 29]) s.heap H locs → lv_has ls 8 [(0, .ref a0), (1, .int x1), (2, .int j6_L2), (3, .int j78_S0), (4, .int v92), (5, .int j44_L5), (6, .int j44_L6), (7, .int v57)] → W p l e R s m ([.ref a0, .int x1] : List Value).toArray below meth c H locs 0 0 Q (F0 m 108 ls [.int j108_S0]) := by
                    intro j108_S0 H locs ls hj108_S0 hT108_0 hT108_1 hT hS hl
                    refine lv_istore (lv' := [(5, .int j108_S0), (0, .ref a0), (1, .int x1), (2, .int j6_L2), (3, .int j78_S0), (4, .int v92), (6, .int j44_L6), (7, .int v57)]) hx hb dX10_liftsThen_108 hl (by decide) rfl (fun ls hl => ?_)
                    obtain ⟨v110, e110⟩ : ∃ y : Int32, y = j44_L6 + 1 := ⟨_, rfl⟩
                    have hv110 : iv v110 1 8 := by rw [e110]; exact iv_w (iv_add hj44_L6_50l (iv_c (x := (1 : Int32)) (k := 1) (by decide)) (by decide)) (by decide)
                    have s110 : v110.toInt = j44_L6.toInt + 1 := by rw [e110, iv_addE hj44_L6_50l (iv_c (x := (1 : Int32)) (k := 1) (by decide)) (by decide)]; rfl
                    refine lv_iinc (v := v110) (lv' := [(6, .int v110), (5, .int j108_S0), (0, .ref a0), (1, .int x1), (2, .int j6_L2), (3, .int j78_S0), (4, .int v92), (7, .int v57)]) hx hb dX10_liftsThen_110 hl (k := 6) rfl (by rw [e110]; rfl) (by decide) rfl (fun ls hl => ?_)
                    refine lv_goto (tgt := 44) hx hb dX10_liftsThen_113 (by decide) ?_
                    exact ih44 j78_S0 v92 j108_S0 v110 _ _ _ (ms_up hms44 (by have := s110; omega) (iv_w (c := 1) (d := 8) hv110 (by decide)).2) (iv_w hj78_S0 (by decide)) (iv_w hv92 (by decide)) (iv_w hj108_S0 (by decide)) (iv_w hv110 (by decide)) (by have b0a := (hx1).1; have b0b := (hx1).2; have b1a := (hj6_L2).1; have b1b := (hj6_L2).2; have b2a := (hj6_L3).1; have b2b := (hj6_L3).2; have b3a := (hv8).1; have b3b := (hv8).2; have b4a := (hj44_L3).1; have b4b := (hj44_L3).2; have b5a := (hh92_26).1; have b5b := (hh92_26).2; have b6a := (hj44_L5).1; have b6b := (hj44_L5).2; have b7a := (hj44_L6_50l).1; have b7b := (hj44_L6_50l).2; have b8a := (hv47_50r).1; have b8b := (hv47_50r).2; have b9a := ((iv_top v57)).1; have b9b := ((iv_top v57)).2; have b10a := (hj78_S0).1; have b10b := (hj78_S0).2; have b11a := (hj92_S1).1; have b11b := (hj92_S1).2; have b12a := (hv92).1; have b12b := (hv92).2; have b13a := (hj108_S0).1; have b13b := (hj108_S0).2; have b14a := (hv110).1; have b14b := (hv110).2; omega) (fun h9 => by have b0a := (hv92).1; have b0b := (hv92).2; have b1a := (hj108_S0).1; have b1b := (hj108_S0).2; omega) hT hS (lv_sub hl [2, 3, 4, 5, 6, 1, 0] rfl)
                  refine lv_icmp_ne (tgt := 106) hx hb dX10_liftsThen_98 (by decide) (fun c98 => ?_) (fun c98 => ?_)
                  · skip
                    have f98 := i_ne c98
                    refine lv_iload hx hb dX10_liftsThen_106 (lv_at hl 5 rfl) ?_
                    exact J108 j44_L5 _ _ _  (iv_w hj44_L5 (by decide)) (by have b0a := (hx1).1; have b0b := (hx1).2; have b1a := (hj6_L2).1; have b1b := (hj6_L2).2; have b2a := (hj6_L3).1; have b2b := (hj6_L3).2; have b3a := (hv8).1; have b3b := (hv8).2; have b4a := (hj44_L3).1; have b4b := (hj44_L3).2; have b5a := (hh92_26).1; have b5b := (hh92_26).2; have b6a := (hj44_L5).1; have b6b := (hj44_L5).2; have b7a := (hj44_L6_50l).1; have b7b := (hj44_L6_50l).2; have b8a := (hv47_50r).1; have b8b := (hv47_50r).2; have b9a := ((iv_top v57)).1; have b9b := ((iv_top v57)).2; have b10a := (hj78_S0).1; have b10b := (hj78_S0).2; have b11a := (hj92_S1).1; have b11b := (hj92_S1).2; have b12a := (hv92).1; have b12b := (hv92).2; omega) (by have b0a := (hx1).1; have b0b := (hx1).2; have b1a := (hj6_L2).1; have b1b := (hj6_L2).2; have b2a := (hj6_L3).1; have b2b := (hj6_L3).2; have b3a := (hv8).1; have b3b := (hv8).2; have b4a := (hj44_L3).1; have b4b := (hj44_L3).2; have b5a := (hh92_26).1; have b5b := (hh92_26).2; have b6a := (hj44_L5).1; have b6b := (hj44_L5).2; have b7a := (hj44_L6_50l).1; have b7b := (hj44_L6_50l).2; have b8a := (hv47_50r).1; have b8b := (hv47_50r).2; have b9a := ((iv_top v57)).1; have b9b := ((iv_top v57)).2; have b10a := (hj78_S0).1; have b10b := (hj78_S0).2; have b11a := (hj92_S1).1; have b11b := (hj92_S1).2; have b12a := (hv92).1; have b12b := (hv92).2; omega) hT hS (lv_sub hl [1, 2, 3, 4, 0, 5, 6, 7] rfl)
                  · skip
                    have f98 := i_eq c98
                    have hv57_98l : iv v57 (-2147483648) 1000 := iv_eql (iv_top v57) hj6_L2 c98 (by decide)
                    refine lv_iload hx hb dX10_liftsThen_101 (lv_at hl 6 rfl) ?_
                    refine lv_goto (tgt := 108) hx hb dX10_liftsThen_103 (by decide) ?_
                    exact J108 j44_L6 _ _ _  (iv_w hj44_L6_50l (by decide)) (by have b0a := (hx1).1; have b0b := (hx1).2; have b1a := (hj6_L2).1; have b1b := (hj6_L2).2; have b2a := (hj6_L3).1; have b2b := (hj6_L3).2; have b3a := (hv8).1; have b3b := (hv8).2; have b4a := (hj44_L3).1; have b4b := (hj44_L3).2; have b5a := (hh92_26).1; have b5b := (hh92_26).2; have b6a := (hj44_L5).1; have b6b := (hj44_L5).2; have b7a := (hj44_L6_50l).1; have b7b := (hj44_L6_50l).2; have b8a := (hv47_50r).1; have b8b := (hv47_50r).2; have b9a := (hv57_98l).1; have b9b := (hv57_98l).2; have b10a := (hj78_S0).1; have b10b := (hj78_S0).2; have b11a := (hj92_S1).1; have b11b := (hj92_S1).2; have b12a := (hv92).1; have b12b := (hv92).2; omega) (by have b0a := (hx1).1; have b0b := (hx1).2; have b1a := (hj6_L2).1; have b1b := (hj6_L2).2; have b2a := (hj6_L3).1; have b2b := (hj6_L3).2; have b3a := (hv8).1; have b3b := (hv8).2; have b4a := (hj44_L3).1; have b4b := (hj44_L3).2; have b5a := (hh92_26).1; have b5b := (hh92_26).2; have b6a := (hj44_L5).1; have b6b := (hj44_L5).2; have b7a := (hj44_L6_50l).1; have b7b := (hj44_L6_50l).2; have b8a := (hv47_50r).1; have b8b := (hv47_50r).2; have b9a := (hv57_98l).1; have b9b := (hv57_98l).2; have b10a := (hj78_S0).1; have b10b := (hj78_S0).2; have b11a := (hj92_S1).1; have b11b := (hj92_S1).2; have b12a := (hv92).1; have b12b := (hv92).2; omega) hT hS (lv_sub hl [1, 2, 3, 4, 0, 5, 6, 7] rfl)
                refine lv_icmp_ne (tgt := 91) hx hb dX10_liftsThen_84 (by decide) (fun c84 => ?_) (fun c84 => ?_)
                · skip
                  have f84 := i_ne c84
                  refine lv_iconst (v := 0) hx hb dX10_liftsThen_91 (by decide) ?_
                  have kl0 : (0 : Int32).toInt = 0 := by decide
                  exact J92 (0 : Int32) _ _ _  (iv_w (iv_c (x := (0 : Int32)) (k := 0) (by decide)) (by decide)) (by have b0a := (hx1).1; have b0b := (hx1).2; have b1a := (hj6_L2).1; have b1b := (hj6_L2).2; have b2a := (hj6_L3).1; have b2b := (hj6_L3).2; have b3a := (hv8).1; have b3b := (hv8).2; have b4a := (hj44_L3).1; have b4b := (hj44_L3).2; have b5a := (hj44_L4).1; have b5b := (hj44_L4).2; have b6a := (hj44_L5).1; have b6b := (hj44_L5).2; have b7a := (hj44_L6_50l).1; have b7b := (hj44_L6_50l).2; have b8a := (hv47_50r).1; have b8b := (hv47_50r).2; have b9a := ((iv_top v57)).1; have b9b := ((iv_top v57)).2; have b10a := (hj78_S0).1; have b10b := (hj78_S0).2; omega) hT hS (lv_sub hl [1, 2, 3, 0, 4, 5, 6, 7] rfl)
                · skip
                  have f84 := i_eq c84
                  have hv57_84l : iv v57 (-2147483648) 1000 := iv_eql (iv_top v57) hj6_L2 c84 (by decide)
                  refine lv_iconst (v := 1) hx hb dX10_liftsThen_87 (by decide) ?_
                  refine lv_goto (tgt := 92) hx hb dX10_liftsThen_88 (by decide) ?_
                  have kl1 : (1 : Int32).toInt = 1 := by decide
                  exact J92 (1 : Int32) _ _ _  (iv_w (iv_c (x := (1 : Int32)) (k := 1) (by decide)) (by decide)) (by have b0a := (hx1).1; have b0b := (hx1).2; have b1a := (hj6_L2).1; have b1b := (hj6_L2).2; have b2a := (hj6_L3).1; have b2b := (hj6_L3).2; have b3a := (hv8).1; have b3b := (hv8).2; have b4a := (hj44_L3).1; have b4b := (hj44_L3).2; have b5a := (hj44_L4).1; have b5b := (hj44_L4).2; have b6a := (hj44_L5).1; have b6b := (hj44_L5).2; have b7a := (hj44_L6_50l).1; have b7b := (hj44_L6_50l).2; have b8a := (hv47_50r).1; have b8b := (hv47_50r).2; have b9a := (hv57_84l).1; have b9b := (hv57_84l).2; have b10a := (hj78_S0).1; have b10b := (hj78_S0).2; omega) hT hS (lv_sub hl [1, 2, 3, 0, 4, 5, 6, 7] rfl)
              refine lv_icmp_le (tgt := 77) hx hb dX10_liftsThen_65 (by decide) (fun c65 => ?_) (fun c65 => ?_)
              · skip
                have f65 := i_le c65
                have hv57_65l : iv v57 (-2147483648) 1000 := iv_lel (iv_top v57) hj6_L2 c65 (by decide)
                refine lv_iload_n hx hb dX10_liftsThen_77 rfl (lv_at hl 4 rfl) ?_
                exact J78 j44_L3 _ _ _  (iv_w hj44_L3 (by decide)) hT hS (lv_sub hl [1, 2, 3, 4, 5, 6, 7, 0] rfl)
              · skip
                have f65 := i_nle c65
                have hv57_65r : iv v57 (-2147483647) 2147483647 := iv_ltr hj6_L2 (iv_top v57) (Int32.not_le.mp c65) (by decide)
                refine lv_iload_n hx hb dX10_liftsThen_68 rfl (lv_at hl 4 rfl) ?_
                refine lv_iload hx hb dX10_liftsThen_69 (lv_at hl 0 rfl) ?_
                refine va_mmin hx hb (by rw [hml]; exact hl.1.symm) hown (hts _ kw_394) (hts _ kw_211) (hts _ kw_212) (hts _ kw_213) (by rw [hR]; decide) (by rw [hR]; exact Nat.le_of_ble_eq_true rfl) (Nat.zero_le _) (Nat.zero_le _) dX10_liftsThen_71 ?_
                refine lv_topi (fun v71 e71 => ?_)
                have hv71 : iv v71 (-2147483647) 1000 := by rw [e71]; exact iv_min hj44_L3 hv57_65r (by decide)
                refine lv_goto (tgt := 78) hx hb dX10_liftsThen_74 (by decide) ?_
                exact J78 v71 _ _ _  (iv_w hv71 (by decide)) hT hS (lv_sub hl [1, 2, 3, 4, 5, 6, 7, 0] rfl)
        refine lv_istore (lv' := [(6, .int (0 : Int32)), (5, .int (-1 : Int32)), (4, .int (0 : Int32)), (3, .int (1000 : Int32)), (0, .ref a0), (1, .int x1), (2, .int j6_L2)]) hx hb dX10_liftsThen_42 hl (by decide) rfl (fun ls hl => ?_)
        have kl0 : (0 : Int32).toInt = 0 := by decide
        have klm1 : (-1 : Int32).toInt = (-1) := by decide
        exact J44 _ (1000 : Int32) (0 : Int32) (-1 : Int32) (0 : Int32) _ _ _ (Nat.lt_succ_self _) (iv_w (iv_c (x := (1000 : Int32)) (k := 1000) (by decide)) (by decide)) (iv_w (iv_c (x := (0 : Int32)) (k := 0) (by decide)) (by decide)) (iv_w (iv_c (x := (-1 : Int32)) (k := (-1)) (by decide)) (by decide)) (iv_w (iv_c (x := (0 : Int32)) (k := 0) (by decide)) (by decide)) (by have b0a := (hx1).1; have b0b := (hx1).2; have b1a := (hj6_L2).1; have b1b := (hj6_L2).2; have b2a := (hj6_L3).1; have b2b := (hj6_L3).2; have b3a := (hv8).1; have b3b := (hv8).2; omega) (fun h9 => by omega) hT hS (lv_sub hl [4, 5, 6, 3, 2, 1, 0] rfl)
      · skip
        have f11 := i_nle c11
        have hj6_L3_11l : iv j6_L3 0 7 := iv_ltl hj6_L3 hv8 (Int32.not_le.mp c11) (by decide)
        have hv8_11r : iv v8 1 8 := iv_ltr hj6_L3_11l hv8 (Int32.not_le.mp c11) (by decide)
        refine lv_iload_n hx hb dX10_liftsThen_14 rfl (lv_at hl 2 rfl) ?_
        refine lv_aload_n hx hb dX10_liftsThen_15 rfl (lv_at hl 0 rfl) ?_
        refine lv_iload_n hx hb dX10_liftsThen_16 rfl (lv_at hl 1 rfl) ?_
        refine lv_iload_n hx hb dX10_liftsThen_17 rfl (lv_at hl 3 rfl) ?_
        refine ti_calli (va_runV (As := [.int x1, .int j6_L3]) (rest := [.int j6_L2]) ⟨hx, hb, hml, hown, hts⟩ (t_X10_shownThen l hT ha0 (iv_w hx1 (by decide)) (iv_w hj6_L3_11l (by decide)) hU) (cwV 2 hts (good_V kw_979 kw_980 kw_981 kw_5 kw_982) rfl rfl rfl (by decide +kernel) ⟨by rw [hR]; decide, by rw [hR]; decide⟩) (ti_preV hK hT ha0 rfl rfl) rfl rfl hl.1 rfl (lv_room (Nat.le_of_ble_eq_true rfl)) dX10_liftsThen_18 ⟨Nat.zero_le _, Nat.zero_le _⟩) hS (pW_sub rfl) (fun v18 H1 locs hB hS _ hk18 => ?_)
        have hH := hB
        rw [hH] at hS ⊢
        refine va_mmin hx hb (by rw [hml]; exact hl.1.symm) hown (hts _ kw_394) (hts _ kw_211) (hts _ kw_212) (hts _ kw_213) (by rw [hR]; decide) (by rw [hR]; exact Nat.le_of_ble_eq_true rfl) (Nat.zero_le _) (Nat.zero_le _) dX10_liftsThen_21 ?_
        refine lv_topi (fun v21 e21 => ?_)
        have hv21 : iv v21 (-2147483648) 1000 := by rw [e21]; exact iv_min hj6_L2 (iv_top v18) (by decide)
        refine lv_istore_n (lv' := [(2, .int v21), (0, .ref a0), (1, .int x1), (3, .int j6_L3)]) hx hb dX10_liftsThen_24 rfl hl (by decide) rfl (fun ls hl => ?_)
        obtain ⟨v25, e25⟩ : ∃ y : Int32, y = j6_L3 + 1 := ⟨_, rfl⟩
        have hv25 : iv v25 1 8 := by rw [e25]; exact iv_w (iv_add hj6_L3_11l (iv_c (x := (1 : Int32)) (k := 1) (by decide)) (by decide)) (by decide)
        have s25 : v25.toInt = j6_L3.toInt + 1 := by rw [e25, iv_addE hj6_L3_11l (iv_c (x := (1 : Int32)) (k := 1) (by decide)) (by decide)]; rfl
        refine lv_iinc (v := v25) (lv' := [(3, .int v25), (2, .int v21), (0, .ref a0), (1, .int x1)]) hx hb dX10_liftsThen_25 hl (k := 3) rfl (by rw [e25]; rfl) (by decide) rfl (fun ls hl => ?_)
        refine lv_goto (tgt := 6) hx hb dX10_liftsThen_28 (by decide) ?_
        exact ih6 v21 v25 _ _ _ (ms_up hms6 (by have := s25; omega) (iv_w (c := 1) (d := 8) hv25 (by decide)).2) (iv_w hv21 (by decide)) (iv_w hv25 (by decide)) hT hS (lv_sub hl [2, 3, 1, 0] rfl)
  refine lv_istore_n (lv' := [(3, .int (0 : Int32)), (2, .int (1000 : Int32)), (0, .ref a0), (1, .int x1)]) hx hb dX10_liftsThen_5 rfl hl (by decide) rfl (fun ls hl => ?_)
  exact J6 _ (1000 : Int32) (0 : Int32) _ _ _ (Nat.lt_succ_self _) (iv_w (iv_c (x := (1000 : Int32)) (k := 1000) (by decide)) (by decide)) (iv_w (iv_c (x := (0 : Int32)) (k := 0) (by decide)) (by decide)) hT hS (lv_sub hl [2, 3, 1, 0] rfl)
set_option maxHeartbeats 4000000 in
set_option maxRecDepth 100000 in
theorem t_X10_strikesThen (l : Launch) {D : va_G} {c0 : Nat → ClassId} {Y : Nat → Option Nat} {ν : Nat → Nat} {H : Heap} (hT : TI D vwCl (tysOf c0) (RTg ν) Y H) {a0 : Nat} (ha0 : Y a0 = some 10) {x1 : Int32} (hx1 : iv x1 0 7) (hU : uq Y) : Met l yX10_strikesThen (wz yX10_strikesThen cX10_strikesThen 10 none) { frames := 3, cells := 0, slots := 0, locals := 110 } (TP D vwCl (tysOf c0) H [.ref a0, .int x1]) (TQv (fun H' => TI D vwCl (tysOf c0) (RTg ν) Y H') Y [10, 29]) 0 0 (pW Y [10, 29]) := by
  refine Met.ofW (cc := cX10_strikesThen) (maxL := 10) (ret := none) (by decide) rfl ?_
  intro p e s m args below meth c s₁ B hml hv
  obtain ⟨rfl, rfl, hK⟩ := hv
  have hx := B.exec
  have hb := B.bytes
  have hr := B.returns
  have hts : ∀ w ∈ wq, w.before _ s = true := fun w h => atoms_spec (ws := wz yX10_strikesThen cX10_strikesThen 10 none) B.pre w (List.mem_cons_of_mem _ h)
  have hown : s.vm.findClass RX10 = some m.cls := findClass_of_methodNamed B.named
  have hlocks := B.notSynchronized
  obtain ⟨R, hR⟩ : ∃ R : Room, R = ({ frames := 3, cells := 0, slots := 0, locals := 110 } : Room) := ⟨_, rfl⟩
  rw [show (headSpec (wz yX10_strikesThen cX10_strikesThen 10 none) { frames := 3, cells := 0, slots := 0, locals := 110 }).room = R from hR.symm]
  refine ti_mv hx hb hr hlocks (fun Q ret => ?_)
  have hl := lv_entry [.ref a0, .int x1] (n := 10) (Nat.le_of_ble_eq_true rfl)
  rw [lg_entry_eq]
  generalize (lg_sl [.ref a0, .int x1] ++ List.replicate (10 - (lg_sl [.ref a0, .int x1]).length) Slot.unset).toArray = ls at hl ⊢
  have hl : lv_has ls 10 [(0, .ref a0), (1, .int x1)] := hl
  refine ti_gen (P := fun H => TI D vwCl (tysOf c0) (RTg ν) Y H) (Y := Y) (ws := [10, 29]) hT (fun H locs hT hS => ?_)
  refine lv_iconst (v := 0) hx hb dX10_strikesThen_0 (by decide) ?_
  refine lv_istore_n (lv' := [(2, .int (0 : Int32)), (0, .ref a0), (1, .int x1)]) hx hb dX10_strikesThen_1 rfl hl (by decide) rfl (fun ls hl => ?_)
  refine lv_iconst (v := 0) hx hb dX10_strikesThen_2 (by decide) ?_
  have J4 : ∀ (n : Nat) (j4_L2 : Int32) (j4_L3 : Int32) (H : Heap) (locs : List Loc) (ls : Array Slot), (8 - j4_L3.toInt).toNat < n → iv j4_L2 0 2147483647 → iv j4_L3 0 8 → TI D vwCl (tysOf c0) (RTg ν) Y H → va_S (pW Y [10, 29]) s.heap H locs → lv_has ls 10 [(0, .ref a0), (1, .int x1), (2, .int j4_L2), (3, .int j4_L3)] → W p l e R s m ([.ref a0, .int x1] : List Value).toArray below meth c H locs 0 0 Q (F0 m 4 ls []) := by
    intro n
    induction n with
    | zero => intro j4_L2 j4_L3 H locs ls hms; exact absurd hms (Nat.not_lt_zero _)
    | succ n ih4 =>
      intro j4_L2 j4_L3 H locs ls hms4 hj4_L2 hj4_L3 hT hS hl
      refine lv_iload_n hx hb dX10_strikesThen_4 rfl (lv_at hl 3 rfl) ?_
      refine lv_aload_n hx hb dX10_strikesThen_5 rfl (lv_at hl 0 rfl) ?_
      refine ti_calli (va_runV (As := []) (rest := [.int j4_L3]) ⟨hx, hb, hml, hown, hts⟩ (t_X10_people l hT ha0 hU) (cwV 0 hts (good_V kw_605 kw_606 kw_607 kw_5 kw_608) rfl rfl rfl (by decide +kernel) ⟨by rw [hR]; decide, by rw [hR]; decide⟩) (ti_preV hK hT ha0 rfl rfl) rfl rfl hl.1 rfl (lv_room (Nat.le_of_ble_eq_true rfl)) dX10_strikesThen_6 ⟨Nat.zero_le _, Nat.zero_le _⟩) hS (pW_sub rfl) (fun v6 H1 locs hB hS _ hk6 => ?_)
      obtain ⟨hH, hv6, hp6⟩ := hB
      rw [hH] at hS ⊢
      refine lv_icmp_ge (tgt := 29) hx hb dX10_strikesThen_9 (by decide) (fun c9 => ?_) (fun c9 => ?_)
      · skip
        have f9 := i_le c9
        refine lv_iconst (v := 0) hx hb dX10_strikesThen_29 (by decide) ?_
        refine lv_istore_n (lv' := [(3, .int (0 : Int32)), (0, .ref a0), (1, .int x1), (2, .int j4_L2)]) hx hb dX10_strikesThen_30 rfl hl (by decide) rfl (fun ls hl => ?_)
        refine lv_iconst (v := 0) hx hb dX10_strikesThen_31 (by decide) ?_
        refine lv_istore (lv' := [(4, .int (0 : Int32)), (3, .int (0 : Int32)), (0, .ref a0), (1, .int x1), (2, .int j4_L2)]) hx hb dX10_strikesThen_32 hl (by decide) rfl (fun ls hl => ?_)
        refine lv_iconst (v := 0) hx hb dX10_strikesThen_34 (by decide) ?_
        refine lv_istore (lv' := [(5, .int (0 : Int32)), (4, .int (0 : Int32)), (3, .int (0 : Int32)), (0, .ref a0), (1, .int x1), (2, .int j4_L2)]) hx hb dX10_strikesThen_35 hl (by decide) rfl (fun ls hl => ?_)
        refine lv_iconst (v := 0) hx hb dX10_strikesThen_37 (by decide) ?_
        have J40 : ∀ (n : Nat) (j40_L3 : Int32) (j40_L4 : Int32) (j40_L5 : Int32) (j40_L6 : Int32) (H : Heap) (locs : List Loc) (ls : Array Slot), (8 - j40_L6.toInt).toNat < n → iv j40_L3 0 2147483646 → iv j40_L4 (-2147483648) 2147483647 → iv j40_L5 (-2147483648) 2147483647 → iv j40_L6 0 8 → TI D vwCl (tysOf c0) (RTg ν) Y H → va_S (pW Y [10, 29]) s.heap H locs → lv_has ls 10 [(0, .ref a0), (1, .int x1), (2, .int j4_L2), (3, .int j40_L3), (4, .int j40_L4), (5, .int j40_L5), (6, .int j40_L6)] → W p l e R s m ([.ref a0, .int x1] : List Value).toArray below meth c H locs 0 0 Q (F0 m 40 ls []) := by
          intro n
          induction n with
          | zero => intro j40_L3 j40_L4 j40_L5 j40_L6 H locs ls hms; exact absurd hms (Nat.not_lt_zero _)
          | succ n ih40 =>
            intro j40_L3 j40_L4 j40_L5 j40_L6 H locs ls hms40 hj40_L3 hj40_L4 hj40_L5 hj40_L6 hT hS hl
            refine lv_iload hx hb dX10_strikesThen_40 (lv_at hl 6 rfl) ?_
            refine lv_aload_n hx hb dX10_strikesThen_42 rfl (lv_at hl 0 rfl) ?_
            refine ti_calli (va_runV (As := []) (rest := [.int j40_L6]) ⟨hx, hb, hml, hown, hts⟩ (t_X10_people l hT ha0 hU) (cwV 0 hts (good_V kw_605 kw_606 kw_607 kw_5 kw_608) rfl rfl rfl (by decide +kernel) ⟨by rw [hR]; decide, by rw [hR]; decide⟩) (ti_preV hK hT ha0 rfl rfl) rfl rfl hl.1 rfl (lv_room (Nat.le_of_ble_eq_true rfl)) dX10_strikesThen_43 ⟨Nat.zero_le _, Nat.zero_le _⟩) hS (pW_sub rfl) (fun v43 H1 locs hB hS _ hk43 => ?_)
            obtain ⟨hH, hv43, hp43⟩ := hB
            rw [hH] at hS ⊢
            refine lv_icmp_ge (tgt := 116) hx hb dX10_strikesThen_46 (by decide) (fun c46 => ?_) (fun c46 => ?_)
            · skip
              have f46 := i_le c46
              refine lv_iload hx hb dX10_strikesThen_116 (lv_at hl 5 rfl) ?_
              refine lv_aload_n hx hb dX10_strikesThen_118 rfl (lv_at hl 0 rfl) ?_
              refine ti_getr hx hb hts inlX10 hown hK hT ha0 rfl rfl rfl 1 (by decide) (hts _ kw_130) (fun _ h9 => h9) rfl dX10_strikesThen_119 (fun v119 hv119 hm119 => ?_)
              refine lv_iconst (v := 3) hx hb dX10_strikesThen_122 (by decide) ?_
              refine ti_iald (lo := (-2147483648)) (hi := 2147483647) hx hb (aT0 hK) hT hv119 rfl (iv_c (x := (3 : Int32)) (k := 3) (by decide)) (by decide) (one_j 3 rfl rfl (by decide) (by decide)) dX10_strikesThen_123 (fun v123 hv123 hm123 => ?_)
              have J145 : ∀ (j145_S0 : Int32) (H : Heap) (locs : List Loc) (ls : Array Slot), iv j145_S0 0 2147483647 → TI D vwCl (tysOf c0) (RTg ν) Y H → va_S (pW Y [10, 29]) s.heap H locs → lv_has ls 10 [(0, .ref a0), (1, .int x1), (2, .int j4_L2), (3, .int j40_L3), (4, .int j40_L4), (5, .int j40_L5), (6, .int j40_L6)] → W p l e R s m ([.ref a0, .int x1] : List Value).toArray below meth c H locs 0 0 Q (F0 m 145 ls [.int j145_S0]) := by
                intro j145_S0 H locs ls hj145_S0 hT hS hl
                refine lv_istore (lv' := [(6, .int j145_S0), (0, .ref a0), (1, .int x1), (2, .int j4_L2), (3, .int j40_L3), (4, .int j40_L4), (5, .int j40_L5)]) hx hb dX10_strikesThen_145 hl (by decide) rfl (fun ls hl => ?_)
                refine lv_aload_n hx hb dX10_strikesThen_147 rfl (lv_at hl 1 rfl) ?_
                refine ti_calli (va_runV (As := []) (rest := []) ⟨hx, hb, hml, hown, hts⟩ (t_X10_people l hT ha0 hU) (cwV 0 hts (good_V kw_605 kw_606 kw_607 kw_5 kw_608) rfl rfl rfl (by decide +kernel) ⟨by rw [hR]; decide, by rw [hR]; decide⟩) (ti_preV hK hT ha0 rfl rfl) rfl rfl hl.1 rfl (lv_room (Nat.le_of_ble_eq_true rfl)) dX10_strikesThen_148 ⟨Nat.zero_le _, Nat.zero_le _⟩) hS (pW_sub rfl) (fun v148 H1 locs hB hS _ hk148 => ?_)
                obtain ⟨hH, hv148, hp148⟩ := hB
                rw [hH] at hS ⊢
                refine lv_iload hx hb dX10_strikesThen_151 (lv_at hl 6 rfl) ?_
                refine lv_isub hx hb dX10_strikesThen_153 ?_
                refine lv_topi (fun v153 e153 => ?_)
                have hv153 : iv v153 (-2147483648) 2147483647 := iv_top _
                refine lv_istore (lv' := [(7, .int v153), (6, .int j145_S0), (0, .ref a0), (1, .int x1), (2, .int j4_L2), (3, .int j40_L3), (4, .int j40_L4), (5, .int j40_L5)]) hx hb dX10_strikesThen_154 hl (by decide) rfl (fun ls hl => ?_)
                refine lv_aload_n hx hb dX10_strikesThen_156 rfl (lv_at hl 2 rfl) ?_
                refine ti_getr hx hb hts inlX10 hown hK hT ha0 rfl rfl rfl 1 (by decide) (hts _ kw_130) (fun _ h9 => h9) rfl dX10_strikesThen_157 (fun v157 hv157 hm157 => ?_)
                obtain rfl : v119 = v157 := hU 30 v119 v157 (by decide) hv119 hv157
                refine lv_iconst (v := 4) hx hb dX10_strikesThen_160 (by decide) ?_
                refine ti_iald (lo := (-2147483648)) (hi := 2147483647) hx hb (aT0 hK) hT hv119 rfl (iv_c (x := (4 : Int32)) (k := 4) (by decide)) (by decide) (one_j 4 rfl rfl (by decide) (by decide)) dX10_strikesThen_161 (fun v161 hv161 hm161 => ?_)
                refine lv_iconst (v := 1) hx hb dX10_strikesThen_162 (by decide) ?_
                have J183 : ∀ (j183_S0 : Int32) (H : Heap) (locs : List Loc) (ls : Array Slot), iv j183_S0 (-2147483648) 2147483647 → TI D vwCl (tysOf c0) (RTg ν) Y H → va_S (pW Y [10, 29]) s.heap H locs → lv_has ls 10 [(0, .ref a0), (1, .int x1), (2, .int j4_L2), (3, .int j40_L3), (4, .int j40_L4), (5, .int j40_L5), (6, .int j145_S0), (7, .int v153)] → W p l e R s m ([.ref a0, .int x1] : List Value).toArray below meth c H locs 0 0 Q (F0 m 183 ls [.int j183_S0]) := by
                  intro j183_S0 H locs ls hj183_S0 hT hS hl
                  refine lv_istore (lv' := [(8, .int j183_S0), (0, .ref a0), (1, .int x1), (2, .int j4_L2), (3, .int j40_L3), (4, .int j40_L4), (5, .int j40_L5), (6, .int j145_S0), (7, .int v153)]) hx hb dX10_strikesThen_183 hl (by decide) rfl (fun ls hl => ?_)
                  refine lv_iconst (v := 0) hx hb dX10_strikesThen_185 (by decide) ?_
                  have J188 : ∀ (n : Nat) (j188_L9 : Int32) (H : Heap) (locs : List Loc) (ls : Array Slot), (8 - j188_L9.toInt).toNat < n → iv j188_L9 0 8 → TI D vwCl (tysOf c0) (RTg ν) Y H → va_S (pW Y [10, 29]) s.heap H locs → lv_has ls 10 [(0, .ref a0), (1, .int x1), (2, .int j4_L2), (3, .int j40_L3), (4, .int j40_L4), (5, .int j40_L5), (6, .int j145_S0), (7, .int v153), (8, .int j183_S0), (9, .int j188_L9)] → W p l e R s m ([.ref a0, .int x1] : List Value).toArray below meth c H locs 0 0 Q (F0 m 188 ls []) := by
                    intro n
                    induction n with
                    | zero => intro j188_L9 H locs ls hms; exact absurd hms (Nat.not_lt_zero _)
                    | succ n ih188 =>
                      intro j188_L9 H locs ls hms188 hj188_L9 hT hS hl
                      refine lv_iload hx hb dX10_strikesThen_188 (lv_at hl 9 rfl) ?_
                      refine lv_aload_n hx hb dX10_strikesThen_190 rfl (lv_at hl 0 rfl) ?_
                      refine ti_calli (va_runV (As := []) (rest := [.int j188_L9]) ⟨hx, hb, hml, hown, hts⟩ (t_X10_people l hT ha0 hU) (cwV 0 hts (good_V kw_605 kw_606 kw_607 kw_5 kw_608) rfl rfl rfl (by decide +kernel) ⟨by rw [hR]; decide, by rw [hR]; decide⟩) (ti_preV hK hT ha0 rfl rfl) rfl rfl hl.1 rfl (lv_room (Nat.le_of_ble_eq_true rfl)) dX10_strikesThen_191 ⟨Nat.zero_le _, Nat.zero_le _⟩) hS (pW_sub rfl) (fun v191 H1 locs hB hS _ hk191 => ?_)
                      obtain ⟨hH, hv191, hp191⟩ := hB
                      rw [hH] at hS ⊢
                      have J249 : ∀  (H : Heap) (locs : List Loc) (ls : Array Slot), TI D vwCl (tysOf c0) (RTg ν) Y H → va_S (pW Y [10, 29]) s.heap H locs → lv_has ls 10 [(0, .ref a0), (1, .int x1), (2, .int j4_L2), (3, .int j40_L3), (4, .int j40_L4), (5, .int j40_L5), (6, .int j145_S0), (7, .int v153), (8, .int j183_S0), (9, .int j188_L9)] → W p l e R s m ([.ref a0, .int x1] : List Value).toArray below meth c H locs 0 0 Q (F0 m 249 ls []) := by
                        intro  H locs ls  hT hS hl
                        refine lv_aload_n hx hb dX10_strikesThen_249 rfl (lv_at hl 0 rfl) ?_
                        refine ti_getr hx hb hts inlX10 hown hK hT ha0 rfl rfl rfl 1 (by decide) (hts _ kw_130) (fun _ h9 => h9) rfl dX10_strikesThen_250 (fun v250 hv250 hm250 => ?_)
                        obtain rfl : v119 = v250 := hU 30 v119 v250 (by decide) hv119 hv250
                        refine lv_iconst (v := 4) hx hb dX10_strikesThen_253 (by decide) ?_
                        refine ti_iald (lo := (-2147483648)) (hi := 2147483647) hx hb (aT0 hK) hT hv119 rfl (iv_c (x := (4 : Int32)) (k := 4) (by decide)) (by decide) (one_j 4 rfl rfl (by decide) (by decide)) dX10_strikesThen_254 (fun v254 hv254 hm254 => ?_)
                        refine lv_iconst (v := 2) hx hb dX10_strikesThen_255 (by decide) ?_
                        have J279 : ∀  (H : Heap) (locs : List Loc) (ls : Array Slot), TI D vwCl (tysOf c0) (RTg ν) Y H → va_S (pW Y [10, 29]) s.heap H locs → lv_has ls 10 [(0, .ref a0), (1, .int x1), (2, .int j4_L2), (3, .int j40_L3), (4, .int j40_L4), (5, .int j40_L5), (6, .int j145_S0), (7, .int v153), (8, .int j183_S0), (9, .int j188_L9)] → W p l e R s m ([.ref a0, .int x1] : List Value).toArray below meth c H locs 0 0 Q (F0 m 279 ls []) := by
                          intro  H locs ls  hT hS hl
                          refine lv_aload_n hx hb dX10_strikesThen_279 rfl (lv_at hl 0 rfl) ?_
                          refine ti_getr hx hb hts inlX10 hown hK hT ha0 rfl rfl rfl 1 (by decide) (hts _ kw_130) (fun _ h9 => h9) rfl dX10_strikesThen_280 (fun v280 hv280 hm280 => ?_)
                          obtain rfl : v119 = v280 := hU 30 v119 v280 (by decide) hv119 hv280
                          refine lv_iconst (v := 5) hx hb dX10_strikesThen_283 (by decide) ?_
                          refine ti_iald (lo := (-2147483648)) (hi := 2147483647) hx hb (aT0 hK) hT hv119 rfl (iv_c (x := (5 : Int32)) (k := 5) (by decide)) (by decide) (one_j 5 rfl rfl (by decide) (by decide)) dX10_strikesThen_284 (fun v284 hv284 hm284 => ?_)
                          refine lv_iconst (v := 1) hx hb dX10_strikesThen_285 (by decide) ?_
                          refine lv_icmp_ne (tgt := 294) hx hb dX10_strikesThen_286 (by decide) (fun c286 => ?_) (fun c286 => ?_)
                          · skip
                            have kl1 : (1 : Int32).toInt = 1 := by decide
                            have f286 := i_ne c286
                            exact ret _ _ _ _ dX10_strikesThen_294 (hT) hS
                          · skip
                            have kl1 : (1 : Int32).toInt = 1 := by decide
                            have f286 := i_eq c286
                            have hv284_286l : iv v284 1 1 := iv_eql hv284 (iv_c (x := (1 : Int32)) (k := 1) (by decide)) c286 (by decide)
                            refine lv_aload_n hx hb dX10_strikesThen_289 rfl (lv_at hl 0 rfl) ?_
                            refine lv_iload_n hx hb dX10_strikesThen_290 rfl (lv_at hl 1 rfl) ?_
                            refine ti_callv (va_runV (As := [.int x1]) (rest := []) ⟨hx, hb, hml, hown, hts⟩ (t_X10_liftsThen l hT ha0 (iv_w hx1 (by decide)) hU) (cwV 1 hts (good_V kw_983 kw_984 kw_985 kw_5 kw_986) rfl rfl rfl (by decide +kernel) ⟨by rw [hR]; decide, by rw [hR]; decide⟩) (ti_preV hK hT ha0 rfl rfl) rfl rfl hl.1 rfl (lv_room (Nat.le_of_ble_eq_true rfl)) dX10_strikesThen_291 ⟨Nat.zero_le _, Nat.zero_le _⟩) hS (pW_sub rfl) (fun H locs hB hS _ hk291 => ?_)
                            have hT := hB
                            exact ret _ _ _ _ dX10_strikesThen_294 (hT) hS
                        refine lv_icmp_ge (tgt := 279) hx hb dX10_strikesThen_256 (by decide) (fun c256 => ?_) (fun c256 => ?_)
                        · skip
                          have kl2 : (2 : Int32).toInt = 2 := by decide
                          have f256 := i_le c256
                          have hv254_256r : iv v254 2 2147483647 := iv_ler (iv_c (x := (2 : Int32)) (k := 2) (by decide)) hv254 c256 (by decide)
                          exact J279  _ _ _   hT hS (lv_sub hl [0, 1, 2, 3, 4, 5, 6, 7, 8, 9] rfl)
                        · skip
                          have kl2 : (2 : Int32).toInt = 2 := by decide
                          have f256 := i_nle c256
                          have hv254_256l : iv v254 (-2147483648) 1 := iv_ltl hv254 (iv_c (x := (2 : Int32)) (k := 2) (by decide)) (Int32.not_le.mp c256) (by decide)
                          refine lv_aload_n hx hb dX10_strikesThen_259 rfl (lv_at hl 0 rfl) ?_
                          refine lv_dup hx hb dX10_strikesThen_260 rfl ?_
                          refine ti_geti hx hb hts inlX10 hown hK hT ha0 rfl rfl rfl 23 (by decide) (hts _ kw_970) (fun _ h9 => h9) rfl dX10_strikesThen_261 (fun v261 hv261 hm261 => ?_)
                          refine lv_iload hx hb dX10_strikesThen_264 (lv_at hl 6 rfl) ?_
                          refine lv_iload hx hb dX10_strikesThen_266 (lv_at hl 5 rfl) ?_
                          refine lv_imul hx hb dX10_strikesThen_268 ?_
                          refine lv_topi (fun v268 e268 => ?_)
                          have hv268 : iv v268 (-2147483648) 2147483647 := iv_top _
                          refine lv_iload hx hb dX10_strikesThen_269 (lv_at hl 8 rfl) ?_
                          refine lv_iload hx hb dX10_strikesThen_271 (lv_at hl 7 rfl) ?_
                          refine lv_imul hx hb dX10_strikesThen_273 ?_
                          refine lv_topi (fun v273 e273 => ?_)
                          have hv273 : iv v273 (-2147483648) 2147483647 := iv_top _
                          refine lv_isub hx hb dX10_strikesThen_274 ?_
                          refine lv_topi (fun v274 e274 => ?_)
                          have hv274 : iv v274 (-2147483648) 2147483647 := iv_top _
                          refine lv_iadd hx hb dX10_strikesThen_275 ?_
                          refine lv_topi (fun v275 e275 => ?_)
                          have hv275 : iv v275 (-2147483648) 2147483647 := iv_top _
                          refine ti_put (ty := .int) hx hb hts inlX10 tyX10 tyX10_ok nmX10 hown hK hT hS ha0 rfl rfl rfl rfl 23 (by decide) (hts _ kw_970) (fun _ h9 => h9) rfl rfl (by decide +kernel) rfl rfl ⟨v275, rfl, iv_w hv275 (by decide)⟩ (fun _ _ => trivial) dX10_strikesThen_276 (fun H locs hT hS oq276 he276 hk276 => ?_)
                          exact J279  _ _ _   hT hS (lv_sub hl [0, 1, 2, 3, 4, 5, 6, 7, 8, 9] rfl)
                      refine lv_icmp_ge (tgt := 249) hx hb dX10_strikesThen_194 (by decide) (fun c194 => ?_) (fun c194 => ?_)
                      · skip
                        have f194 := i_le c194
                        exact J249  _ _ _   hT hS (lv_sub hl [0, 1, 2, 3, 4, 5, 6, 7, 8, 9] rfl)
                      · skip
                        have f194 := i_nle c194
                        have hj188_L9_194l : iv j188_L9 0 7 := iv_ltl hj188_L9 hv191 (Int32.not_le.mp c194) (by decide)
                        have hv191_194r : iv v191 1 8 := iv_ltr hj188_L9_194l hv191 (Int32.not_le.mp c194) (by decide)
                        refine lv_iload hx hb dX10_strikesThen_197 (lv_at hl 6 rfl) ?_
                        refine lv_if_le (tgt := 249) hx hb dX10_strikesThen_199 (by decide) (fun c199 => ?_) (fun c199 => ?_)
                        · skip
                          have kl0 : (0 : Int32).toInt = 0 := by decide
                          have f199 := i_le c199
                          have hj145_S0_199l : iv j145_S0 0 0 := iv_lel hj145_S0 (iv_c (x := (0 : Int32)) (k := 0) (by decide)) c199 (by decide)
                          exact J249  _ _ _   hT hS (lv_sub hl [0, 1, 2, 3, 4, 5, 6, 7, 8, 9] rfl)
                        · skip
                          have kl0 : (0 : Int32).toInt = 0 := by decide
                          have f199 := i_nle c199
                          have hj145_S0_199r : iv j145_S0 1 2147483647 := iv_ltr (iv_c (x := (0 : Int32)) (k := 0) (by decide)) hj145_S0 (Int32.not_le.mp c199) (by decide)
                          refine lv_aload_n hx hb dX10_strikesThen_202 rfl (lv_at hl 0 rfl) ?_
                          refine lv_iload_n hx hb dX10_strikesThen_203 rfl (lv_at hl 1 rfl) ?_
                          refine lv_iload hx hb dX10_strikesThen_204 (lv_at hl 9 rfl) ?_
                          refine lv_iload hx hb dX10_strikesThen_206 (lv_at hl 4 rfl) ?_
                          refine lv_iload hx hb dX10_strikesThen_208 (lv_at hl 9 rfl) ?_
                          refine lv_ishr hx hb dX10_strikesThen_210 ?_
                          refine lv_topi (fun v210 e210 => ?_)
                          have hv210 : iv v210 (-2147483648) 2147483647 := iv_top _
                          refine lv_iconst (v := 1) hx hb dX10_strikesThen_211 (by decide) ?_
                          refine lv_iand hx hb dX10_strikesThen_212 ?_
                          refine lv_topi (fun v212 e212 => ?_)
                          have hv212 : iv v212 0 1 := by rw [e212]; exact iv_and (iv_w (iv_c (x := (1 : Int32)) (k := 1) (by decide)) (by decide))
                          refine lv_iconst (v := 1) hx hb dX10_strikesThen_213 (by decide) ?_
                          have J240 : ∀ (j240_S3 : Int32) (H : Heap) (locs : List Loc) (ls : Array Slot), iv j240_S3 (-2147483648) 2147483647 → TI D vwCl (tysOf c0) (RTg ν) Y H → va_S (pW Y [10, 29]) s.heap H locs → lv_has ls 10 [(0, .ref a0), (1, .int x1), (2, .int j4_L2), (3, .int j40_L3), (4, .int j40_L4), (5, .int j40_L5), (6, .int j145_S0), (7, .int v153), (8, .int j183_S0), (9, .int j188_L9)] → W p l e R s m ([.ref a0, .int x1] : List Value).toArray below meth c H locs 0 0 Q (F0 m 240 ls [.int j240_S3, .int j188_L9, .int x1, .ref a0]) := by
                            intro j240_S3 H locs ls hj240_S3 hT hS hl
                            refine ti_callv (va_runV (As := [.int x1, .int j188_L9, .int j240_S3]) (rest := []) ⟨hx, hb, hml, hown, hts⟩ (t_X10_holdsThen l hT ha0 (iv_w hx1 (by decide)) (iv_w hj188_L9_194l (by decide)) (iv_w hj240_S3 (by decide)) hU) (cwV 3 hts (good_V kw_971 kw_972 kw_973 kw_5 kw_974) rfl rfl rfl (by decide +kernel) ⟨by rw [hR]; decide, by rw [hR]; decide⟩) (ti_preV hK hT ha0 rfl rfl) rfl rfl hl.1 rfl (lv_room (Nat.le_of_ble_eq_true rfl)) dX10_strikesThen_240 ⟨Nat.zero_le _, Nat.zero_le _⟩) hS (pW_sub rfl) (fun H locs hB hS _ hk240 => ?_)
                            have hT := hB
                            obtain ⟨v243, e243⟩ : ∃ y : Int32, y = j188_L9 + 1 := ⟨_, rfl⟩
                            have hv243 : iv v243 1 8 := by rw [e243]; exact iv_w (iv_add hj188_L9_194l (iv_c (x := (1 : Int32)) (k := 1) (by decide)) (by decide)) (by decide)
                            have s243 : v243.toInt = j188_L9.toInt + 1 := by rw [e243, iv_addE hj188_L9_194l (iv_c (x := (1 : Int32)) (k := 1) (by decide)) (by decide)]; rfl
                            refine lv_iinc (v := v243) (lv' := [(9, .int v243), (0, .ref a0), (1, .int x1), (2, .int j4_L2), (3, .int j40_L3), (4, .int j40_L4), (5, .int j40_L5), (6, .int j145_S0), (7, .int v153), (8, .int j183_S0)]) hx hb dX10_strikesThen_243 hl (k := 9) rfl (by rw [e243]; rfl) (by decide) rfl (fun ls hl => ?_)
                            refine lv_goto (tgt := 188) hx hb dX10_strikesThen_246 (by decide) ?_
                            exact ih188 v243 _ _ _ (ms_up hms188 (by have := s243; omega) (iv_w (c := 1) (d := 8) hv243 (by decide)).2) (iv_w hv243 (by decide)) hT hS (lv_sub hl [1, 2, 3, 4, 5, 6, 7, 8, 9, 0] rfl)
                          refine lv_icmp_ne (tgt := 230) hx hb dX10_strikesThen_214 (by decide) (fun c214 => ?_) (fun c214 => ?_)
                          · skip
                            have kl1 : (1 : Int32).toInt = 1 := by decide
                            have f214 := i_ne c214
                            have hv212_214l : iv v212 0 0 := iv_nel hv212 (iv_c (x := (1 : Int32)) (k := 1) (by decide)) c214 (by decide)
                            refine lv_aload_n hx hb dX10_strikesThen_230 rfl (lv_at hl 0 rfl) ?_
                            refine ti_getr hx hb hts inlX10 hown hK hT ha0 rfl rfl rfl 21 (by decide) (hts _ kw_141) (fun _ h9 => h9) rfl dX10_strikesThen_231 (fun v231 hv231 hm231 => ?_)
                            refine lv_iload hx hb dX10_strikesThen_234 (lv_at hl 9 rfl) ?_
                            refine ti_iald (lo := (-2147483648)) (hi := 2147483647) hx hb (aT0 hK) hT hv231 rfl hj188_L9_194l (by decide) (fun _ _ _ => ⟨_, _, rfl, by decide, by decide⟩) dX10_strikesThen_236 (fun v236 hv236 hm236 => ?_)
                            refine lv_iload hx hb dX10_strikesThen_237 (lv_at hl 8 rfl) ?_
                            refine lv_iadd hx hb dX10_strikesThen_239 ?_
                            refine lv_topi (fun v239 e239 => ?_)
                            have hv239 : iv v239 (-2147483648) 2147483647 := iv_top _
                            exact J240 v239 _ _ _  (iv_w hv239 (by decide)) hT hS (lv_sub hl [0, 1, 2, 3, 4, 5, 6, 7, 8, 9] rfl)
                          · skip
                            have kl1 : (1 : Int32).toInt = 1 := by decide
                            have f214 := i_eq c214
                            have hv212_214l : iv v212 1 1 := iv_eql hv212 (iv_c (x := (1 : Int32)) (k := 1) (by decide)) c214 (by decide)
                            refine lv_aload_n hx hb dX10_strikesThen_217 rfl (lv_at hl 0 rfl) ?_
                            refine ti_getr hx hb hts inlX10 hown hK hT ha0 rfl rfl rfl 21 (by decide) (hts _ kw_141) (fun _ h9 => h9) rfl dX10_strikesThen_218 (fun v218 hv218 hm218 => ?_)
                            refine lv_iload hx hb dX10_strikesThen_221 (lv_at hl 9 rfl) ?_
                            refine ti_iald (lo := (-2147483648)) (hi := 2147483647) hx hb (aT0 hK) hT hv218 rfl hj188_L9_194l (by decide) (fun _ _ _ => ⟨_, _, rfl, by decide, by decide⟩) dX10_strikesThen_223 (fun v223 hv223 hm223 => ?_)
                            refine lv_iload hx hb dX10_strikesThen_224 (lv_at hl 6 rfl) ?_
                            refine lv_isub hx hb dX10_strikesThen_226 ?_
                            refine lv_topi (fun v226 e226 => ?_)
                            have hv226 : iv v226 (-2147483648) 2147483647 := iv_top _
                            refine lv_goto (tgt := 240) hx hb dX10_strikesThen_227 (by decide) ?_
                            exact J240 v226 _ _ _  (iv_w hv226 (by decide)) hT hS (lv_sub hl [0, 1, 2, 3, 4, 5, 6, 7, 8, 9] rfl)
                  refine lv_istore (lv' := [(9, .int (0 : Int32)), (8, .int j183_S0), (0, .ref a0), (1, .int x1), (2, .int j4_L2), (3, .int j40_L3), (4, .int j40_L4), (5, .int j40_L5), (6, .int j145_S0), (7, .int v153)]) hx hb dX10_strikesThen_186 hl (by decide) rfl (fun ls hl => ?_)
                  exact J188 _ (0 : Int32) _ _ _ (Nat.lt_succ_self _) (iv_w (iv_c (x := (0 : Int32)) (k := 0) (by decide)) (by decide)) hT hS (lv_sub hl [2, 3, 4, 5, 6, 7, 8, 9, 1, 0] rfl)
                have J182 : ∀  (H : Heap) (locs : List Loc) (ls : Array Slot), TI D vwCl (tysOf c0) (RTg ν) Y H → va_S (pW Y [10, 29]) s.heap H locs → lv_has ls 10 [(0, .ref a0), (1, .int x1), (2, .int j4_L2), (3, .int j40_L3), (4, .int j40_L4), (5, .int j40_L5), (6, .int j145_S0), (7, .int v153)] → W p l e R s m ([.ref a0, .int x1] : List Value).toArray below meth c H locs 0 0 Q (F0 m 182 ls []) := by
                  intro  H locs ls  hT hS hl
                  refine lv_iconst (v := 0) hx hb dX10_strikesThen_182 (by decide) ?_
                  exact J183 (0 : Int32) _ _ _  (iv_w (iv_c (x := (0 : Int32)) (k := 0) (by decide)) (by decide)) hT hS (lv_sub hl [0, 1, 2, 3, 4, 5, 6, 7] rfl)
                refine lv_icmp_ne (tgt := 182) hx hb dX10_strikesThen_163 (by decide) (fun c163 => ?_) (fun c163 => ?_)
                · skip
                  have kl1 : (1 : Int32).toInt = 1 := by decide
                  have f163 := i_ne c163
                  exact J182  _ _ _   hT hS (lv_sub hl [2, 3, 4, 5, 6, 7, 1, 0] rfl)
                · skip
                  have kl1 : (1 : Int32).toInt = 1 := by decide
                  have f163 := i_eq c163
                  have hv161_163l : iv v161 1 1 := iv_eql hv161 (iv_c (x := (1 : Int32)) (k := 1) (by decide)) c163 (by decide)
                  refine lv_iload hx hb dX10_strikesThen_166 (lv_at hl 0 rfl) ?_
                  refine lv_if_le (tgt := 182) hx hb dX10_strikesThen_168 (by decide) (fun c168 => ?_) (fun c168 => ?_)
                  · skip
                    have kl0 : (0 : Int32).toInt = 0 := by decide
                    have f168 := i_le c168
                    have hv153_168l : iv v153 (-2147483648) 0 := iv_lel hv153 (iv_c (x := (0 : Int32)) (k := 0) (by decide)) c168 (by decide)
                    exact J182  _ _ _   hT hS (lv_sub hl [2, 3, 4, 5, 6, 7, 1, 0] rfl)
                  · skip
                    have kl0 : (0 : Int32).toInt = 0 := by decide
                    have f168 := i_nle c168
                    have hv153_168r : iv v153 1 2147483647 := iv_ltr (iv_c (x := (0 : Int32)) (k := 0) (by decide)) hv153 (Int32.not_le.mp c168) (by decide)
                    refine lv_iload hx hb dX10_strikesThen_171 (lv_at hl 1 rfl) ?_
                    refine lv_iload hx hb dX10_strikesThen_173 (lv_at hl 7 rfl) ?_
                    refine lv_imul hx hb dX10_strikesThen_175 ?_
                    refine lv_topi (fun v175 e175 => ?_)
                    have hv175 : iv v175 (-2147483648) 2147483647 := iv_top _
                    refine lv_iload hx hb dX10_strikesThen_176 (lv_at hl 0 rfl) ?_
                    refine lv_idiv hx hb dX10_strikesThen_178 (iv_ne0 hv153_168r (by decide)) ?_
                    refine lv_topi (fun v178 e178 => ?_)
                    have hv178 : iv v178 (-2147483648) 2147483647 := by rw [e178]; exact iv_div hv175 hv153_168r (by decide)
                    refine lv_goto (tgt := 183) hx hb dX10_strikesThen_179 (by decide) ?_
                    exact J183 v178 _ _ _  (iv_w hv178 (by decide)) hT hS (lv_sub hl [2, 3, 4, 5, 6, 7, 1, 0] rfl)
              refine lv_icmp_lt (tgt := 131) hx hb dX10_strikesThen_124 (by decide) (fun c124 => ?_) (fun c124 => ?_)
              · skip
                have f124 := i_lt c124
                have hj40_L5_124l : iv j40_L5 (-2147483648) 2147483646 := iv_ltl hj40_L5 hv123 c124 (by decide)
                have hv123_124r : iv v123 (-2147483647) 2147483647 := iv_ltr hj40_L5_124l hv123 c124 (by decide)
                refine lv_iconst (v := 0) hx hb dX10_strikesThen_131 (by decide) ?_
                refine lv_iload_n hx hb dX10_strikesThen_132 rfl (lv_at hl 2 rfl) ?_
                refine lv_iload_n hx hb dX10_strikesThen_133 rfl (lv_at hl 3 rfl) ?_
                refine lv_isub hx hb dX10_strikesThen_134 ?_
                refine lv_topi (fun v134 e134 => ?_)
                have hv134 : iv v134 (-2147483646) 2147483647 := by rw [e134]; exact iv_w (iv_sub hj4_L2 hj40_L3 (by decide)) (by decide)
                have s134 : v134.toInt = j4_L2.toInt - j40_L3.toInt := by rw [e134]; exact iv_subE hj4_L2 hj40_L3 (by decide)
                refine lv_aload_n hx hb dX10_strikesThen_135 rfl (lv_at hl 0 rfl) ?_
                refine ti_getE (ci := 10) (v := .ref v119) hx hb hts inlX10 hown hK hm119 rfl (by decide) (hts _ kw_130) (fun _ h9 => h9) dX10_strikesThen_136 ?_
                refine lv_iconst (v := 2) hx hb dX10_strikesThen_139 (by decide) ?_
                refine ti_iald (lo := (-2147483648)) (hi := 2147483647) hx hb (aT0 hK) hT hv119 rfl (iv_c (x := (2 : Int32)) (k := 2) (by decide)) (by decide) (one_j 2 rfl rfl (by decide) (by decide)) dX10_strikesThen_140 (fun v140 hv140 hm140 => ?_)
                refine lv_isub hx hb dX10_strikesThen_141 ?_
                refine lv_topi (fun v141 e141 => ?_)
                have hv141 : iv v141 (-2147483648) 2147483647 := iv_top _
                refine va_mmax hx hb (by rw [hml]; exact hl.1.symm) hown (hts _ kw_617) (hts _ kw_618) (hts _ kw_212) (hts _ kw_619) (by rw [hR]; decide) (by rw [hR]; exact Nat.le_of_ble_eq_true rfl) (Nat.zero_le _) (Nat.zero_le _) dX10_strikesThen_142 ?_
                refine lv_topi (fun v142 e142 => ?_)
                have hv142 : iv v142 0 2147483647 := by rw [e142]; exact iv_max (iv_c (x := (0 : Int32)) (k := 0) (by decide)) hv141 (by decide)
                exact J145 v142 _ _ _  (iv_w hv142 (by decide)) hT hS (lv_sub hl [0, 1, 2, 3, 4, 5, 6] rfl)
              · skip
                have f124 := i_nlt c124
                refine lv_iconst (v := 0) hx hb dX10_strikesThen_127 (by decide) ?_
                refine lv_goto (tgt := 145) hx hb dX10_strikesThen_128 (by decide) ?_
                exact J145 (0 : Int32) _ _ _  (iv_w (iv_c (x := (0 : Int32)) (k := 0) (by decide)) (by decide)) hT hS (lv_sub hl [0, 1, 2, 3, 4, 5, 6] rfl)
            · skip
              have f46 := i_nle c46
              have hj40_L6_46l : iv j40_L6 0 7 := iv_ltl hj40_L6 hv43 (Int32.not_le.mp c46) (by decide)
              have hv43_46r : iv v43 1 8 := iv_ltr hj40_L6_46l hv43 (Int32.not_le.mp c46) (by decide)
              refine lv_aload_n hx hb dX10_strikesThen_49 rfl (lv_at hl 0 rfl) ?_
              refine lv_iload_n hx hb dX10_strikesThen_50 rfl (lv_at hl 1 rfl) ?_
              refine lv_iload hx hb dX10_strikesThen_51 (lv_at hl 6 rfl) ?_
              refine ti_calli (va_runV (As := [.int x1, .int j40_L6]) (rest := []) ⟨hx, hb, hml, hown, hts⟩ (t_X10_shownThen l hT ha0 (iv_w hx1 (by decide)) (iv_w hj40_L6_46l (by decide)) hU) (cwV 2 hts (good_V kw_979 kw_980 kw_981 kw_5 kw_982) rfl rfl rfl (by decide +kernel) ⟨by rw [hR]; decide, by rw [hR]; decide⟩) (ti_preV hK hT ha0 rfl rfl) rfl rfl hl.1 rfl (lv_room (Nat.le_of_ble_eq_true rfl)) dX10_strikesThen_53 ⟨Nat.zero_le _, Nat.zero_le _⟩) hS (pW_sub rfl) (fun v53 H1 locs hB hS _ hk53 => ?_)
              have hH := hB
              rw [hH] at hS ⊢
              refine lv_istore (lv' := [(7, .int v53), (0, .ref a0), (1, .int x1), (2, .int j4_L2), (3, .int j40_L3), (4, .int j40_L4), (5, .int j40_L5), (6, .int j40_L6)]) hx hb dX10_strikesThen_56 hl (by decide) rfl (fun ls hl => ?_)
              refine lv_iload hx hb dX10_strikesThen_58 (lv_at hl 0 rfl) ?_
              refine lv_iload_n hx hb dX10_strikesThen_60 rfl (lv_at hl 3 rfl) ?_
              have J74 : ∀ (j74_S0 : Int32) (H : Heap) (locs : List Loc) (ls : Array Slot), iv j74_S0 0 2147483646 → TI D vwCl (tysOf c0) (RTg ν) Y H → va_S (pW Y [10, 29]) s.heap H locs → lv_has ls 10 [(0, .ref a0), (1, .int x1), (2, .int j4_L2), (3, .int j40_L3), (4, .int j40_L4), (5, .int j40_L5), (6, .int j40_L6), (7, .int v53)] → W p l e R s m ([.ref a0, .int x1] : List Value).toArray below meth c H locs 0 0 Q (F0 m 74 ls [.int j74_S0]) := by
                intro j74_S0 H locs ls hj74_S0 hT hS hl
                refine lv_istore_n (lv' := [(3, .int j74_S0), (0, .ref a0), (1, .int x1), (2, .int j4_L2), (4, .int j40_L4), (5, .int j40_L5), (6, .int j40_L6), (7, .int v53)]) hx hb dX10_strikesThen_74 rfl hl (by decide) rfl (fun ls hl => ?_)
                refine lv_iload hx hb dX10_strikesThen_75 (lv_at hl 4 rfl) ?_
                refine lv_iload hx hb dX10_strikesThen_77 (lv_at hl 7 rfl) ?_
                refine lv_iload_n hx hb dX10_strikesThen_79 rfl (lv_at hl 3 rfl) ?_
                have J91 : ∀ (j91_S1 : Int32) (H : Heap) (locs : List Loc) (ls : Array Slot), iv j91_S1 (-2147483648) 2147483647 → TI D vwCl (tysOf c0) (RTg ν) Y H → va_S (pW Y [10, 29]) s.heap H locs → lv_has ls 10 [(0, .ref a0), (1, .int x1), (2, .int j4_L2), (3, .int j74_S0), (4, .int j40_L4), (5, .int j40_L5), (6, .int j40_L6), (7, .int v53)] → W p l e R s m ([.ref a0, .int x1] : List Value).toArray below meth c H locs 0 0 Q (F0 m 91 ls [.int j91_S1, .int j40_L4]) := by
                  intro j91_S1 H locs ls hj91_S1 hT hS hl
                  refine lv_ior hx hb dX10_strikesThen_91 ?_
                  refine lv_topi (fun v91 e91 => ?_)
                  have hv91 : iv v91 (-2147483648) 2147483647 := iv_top _
                  refine lv_istore (lv' := [(4, .int v91), (0, .ref a0), (1, .int x1), (2, .int j4_L2), (3, .int j74_S0), (5, .int j40_L5), (6, .int j40_L6), (7, .int v53)]) hx hb dX10_strikesThen_92 hl (by decide) rfl (fun ls hl => ?_)
                  refine lv_iload hx hb dX10_strikesThen_94 (lv_at hl 5 rfl) ?_
                  refine lv_iload hx hb dX10_strikesThen_96 (lv_at hl 7 rfl) ?_
                  refine lv_iload_n hx hb dX10_strikesThen_98 rfl (lv_at hl 3 rfl) ?_
                  have J107 : ∀ (j107_S1 : Int32) (H : Heap) (locs : List Loc) (ls : Array Slot), iv j107_S1 0 1 → TI D vwCl (tysOf c0) (RTg ν) Y H → va_S (pW Y [10, 29]) s.heap H locs → lv_has ls 10 [(0, .ref a0), (1, .int x1), (2, .int j4_L2), (3, .int j74_S0), (4, .int v91), (5, .int j40_L5), (6, .int j40_L6), (7, .int v53)] → W p l e R s m ([.ref a0, .int x1] : List Value).toArray below meth c H locs 0 0 Q (F0 m 107 ls [.int j107_S1, .int j40_L5]) := by
                    intro j107_S1 H locs ls hj107_S1 hT hS hl
                    refine lv_iadd hx hb dX10_strikesThen_107 ?_
                    refine lv_topi (fun v107 e107 => ?_)
                    have hv107 : iv v107 (-2147483648) 2147483647 := iv_top _
                    refine lv_istore (lv' := [(5, .int v107), (0, .ref a0), (1, .int x1), (2, .int j4_L2), (3, .int j74_S0), (4, .int v91), (6, .int j40_L6), (7, .int v53)]) hx hb dX10_strikesThen_108 hl (by decide) rfl (fun ls hl => ?_)
                    obtain ⟨v110, e110⟩ : ∃ y : Int32, y = j40_L6 + 1 := ⟨_, rfl⟩
                    have hv110 : iv v110 1 8 := by rw [e110]; exact iv_w (iv_add hj40_L6_46l (iv_c (x := (1 : Int32)) (k := 1) (by decide)) (by decide)) (by decide)
                    have s110 : v110.toInt = j40_L6.toInt + 1 := by rw [e110, iv_addE hj40_L6_46l (iv_c (x := (1 : Int32)) (k := 1) (by decide)) (by decide)]; rfl
                    refine lv_iinc (v := v110) (lv' := [(6, .int v110), (5, .int v107), (0, .ref a0), (1, .int x1), (2, .int j4_L2), (3, .int j74_S0), (4, .int v91), (7, .int v53)]) hx hb dX10_strikesThen_110 hl (k := 6) rfl (by rw [e110]; rfl) (by decide) rfl (fun ls hl => ?_)
                    refine lv_goto (tgt := 40) hx hb dX10_strikesThen_113 (by decide) ?_
                    exact ih40 j74_S0 v91 v107 v110 _ _ _ (ms_up hms40 (by have := s110; omega) (iv_w (c := 1) (d := 8) hv110 (by decide)).2) (iv_w hj74_S0 (by decide)) (iv_w hv91 (by decide)) (iv_w hv107 (by decide)) (iv_w hv110 (by decide)) hT hS (lv_sub hl [2, 3, 4, 5, 6, 1, 0] rfl)
                  refine lv_icmp_ne (tgt := 106) hx hb dX10_strikesThen_99 (by decide) (fun c99 => ?_) (fun c99 => ?_)
                  · skip
                    have f99 := i_ne c99
                    refine lv_iconst (v := 0) hx hb dX10_strikesThen_106 (by decide) ?_
                    exact J107 (0 : Int32) _ _ _  (iv_w (iv_c (x := (0 : Int32)) (k := 0) (by decide)) (by decide)) hT hS (lv_sub hl [1, 2, 3, 4, 0, 5, 6, 7] rfl)
                  · skip
                    have f99 := i_eq c99
                    have hv53_99l : iv v53 0 2147483647 := iv_eql (iv_top v53) hj4_L2 c99 (by decide)
                    refine lv_iconst (v := 1) hx hb dX10_strikesThen_102 (by decide) ?_
                    refine lv_goto (tgt := 107) hx hb dX10_strikesThen_103 (by decide) ?_
                    exact J107 (1 : Int32) _ _ _  (iv_w (iv_c (x := (1 : Int32)) (k := 1) (by decide)) (by decide)) hT hS (lv_sub hl [1, 2, 3, 4, 0, 5, 6, 7] rfl)
                refine lv_icmp_ne (tgt := 90) hx hb dX10_strikesThen_80 (by decide) (fun c80 => ?_) (fun c80 => ?_)
                · skip
                  have f80 := i_ne c80
                  refine lv_iconst (v := 0) hx hb dX10_strikesThen_90 (by decide) ?_
                  exact J91 (0 : Int32) _ _ _  (iv_w (iv_c (x := (0 : Int32)) (k := 0) (by decide)) (by decide)) hT hS (lv_sub hl [1, 2, 3, 0, 4, 5, 6, 7] rfl)
                · skip
                  have f80 := i_eq c80
                  have hv53_80l : iv v53 0 2147483647 := iv_eql (iv_top v53) hj4_L2 c80 (by decide)
                  refine lv_iconst (v := 1) hx hb dX10_strikesThen_83 (by decide) ?_
                  refine lv_iload hx hb dX10_strikesThen_84 (lv_at hl 6 rfl) ?_
                  refine lv_ishl hx hb dX10_strikesThen_86 ?_
                  refine lv_topi (fun v86 e86 => ?_)
                  have hv86 : iv v86 (-2147483648) 2147483647 := iv_top _
                  refine lv_goto (tgt := 91) hx hb dX10_strikesThen_87 (by decide) ?_
                  exact J91 v86 _ _ _  (iv_w hv86 (by decide)) hT hS (lv_sub hl [1, 2, 3, 0, 4, 5, 6, 7] rfl)
              refine lv_icmp_ge (tgt := 73) hx hb dX10_strikesThen_61 (by decide) (fun c61 => ?_) (fun c61 => ?_)
              · skip
                have f61 := i_le c61
                have hv53_61r : iv v53 0 2147483647 := iv_ler hj4_L2 (iv_top v53) c61 (by decide)
                refine lv_iload_n hx hb dX10_strikesThen_73 rfl (lv_at hl 4 rfl) ?_
                exact J74 j40_L3 _ _ _  (iv_w hj40_L3 (by decide)) hT hS (lv_sub hl [1, 2, 3, 4, 5, 6, 7, 0] rfl)
              · skip
                have f61 := i_nle c61
                have hv53_61l : iv v53 (-2147483648) 2147483646 := iv_ltl (iv_top v53) hj4_L2 (Int32.not_le.mp c61) (by decide)
                refine lv_iload_n hx hb dX10_strikesThen_64 rfl (lv_at hl 4 rfl) ?_
                refine lv_iload hx hb dX10_strikesThen_65 (lv_at hl 0 rfl) ?_
                refine va_mmax hx hb (by rw [hml]; exact hl.1.symm) hown (hts _ kw_617) (hts _ kw_618) (hts _ kw_212) (hts _ kw_619) (by rw [hR]; decide) (by rw [hR]; exact Nat.le_of_ble_eq_true rfl) (Nat.zero_le _) (Nat.zero_le _) dX10_strikesThen_67 ?_
                refine lv_topi (fun v67 e67 => ?_)
                have hv67 : iv v67 0 2147483646 := by rw [e67]; exact iv_max hj40_L3 hv53_61l (by decide)
                refine lv_goto (tgt := 74) hx hb dX10_strikesThen_70 (by decide) ?_
                exact J74 v67 _ _ _  (iv_w hv67 (by decide)) hT hS (lv_sub hl [1, 2, 3, 4, 5, 6, 7, 0] rfl)
        refine lv_istore (lv' := [(6, .int (0 : Int32)), (5, .int (0 : Int32)), (4, .int (0 : Int32)), (3, .int (0 : Int32)), (0, .ref a0), (1, .int x1), (2, .int j4_L2)]) hx hb dX10_strikesThen_38 hl (by decide) rfl (fun ls hl => ?_)
        exact J40 _ (0 : Int32) (0 : Int32) (0 : Int32) (0 : Int32) _ _ _ (Nat.lt_succ_self _) (iv_w (iv_c (x := (0 : Int32)) (k := 0) (by decide)) (by decide)) (iv_w (iv_c (x := (0 : Int32)) (k := 0) (by decide)) (by decide)) (iv_w (iv_c (x := (0 : Int32)) (k := 0) (by decide)) (by decide)) (iv_w (iv_c (x := (0 : Int32)) (k := 0) (by decide)) (by decide)) hT hS (lv_sub hl [4, 5, 6, 3, 2, 1, 0] rfl)
      · skip
        have f9 := i_nle c9
        have hj4_L3_9l : iv j4_L3 0 7 := iv_ltl hj4_L3 hv6 (Int32.not_le.mp c9) (by decide)
        have hv6_9r : iv v6 1 8 := iv_ltr hj4_L3_9l hv6 (Int32.not_le.mp c9) (by decide)
        refine lv_iload_n hx hb dX10_strikesThen_12 rfl (lv_at hl 2 rfl) ?_
        refine lv_aload_n hx hb dX10_strikesThen_13 rfl (lv_at hl 0 rfl) ?_
        refine lv_iload_n hx hb dX10_strikesThen_14 rfl (lv_at hl 1 rfl) ?_
        refine lv_iload_n hx hb dX10_strikesThen_15 rfl (lv_at hl 3 rfl) ?_
        refine ti_calli (va_runV (As := [.int x1, .int j4_L3]) (rest := [.int j4_L2]) ⟨hx, hb, hml, hown, hts⟩ (t_X10_shownThen l hT ha0 (iv_w hx1 (by decide)) (iv_w hj4_L3_9l (by decide)) hU) (cwV 2 hts (good_V kw_979 kw_980 kw_981 kw_5 kw_982) rfl rfl rfl (by decide +kernel) ⟨by rw [hR]; decide, by rw [hR]; decide⟩) (ti_preV hK hT ha0 rfl rfl) rfl rfl hl.1 rfl (lv_room (Nat.le_of_ble_eq_true rfl)) dX10_strikesThen_16 ⟨Nat.zero_le _, Nat.zero_le _⟩) hS (pW_sub rfl) (fun v16 H1 locs hB hS _ hk16 => ?_)
        have hH := hB
        rw [hH] at hS ⊢
        refine va_mmax hx hb (by rw [hml]; exact hl.1.symm) hown (hts _ kw_617) (hts _ kw_618) (hts _ kw_212) (hts _ kw_619) (by rw [hR]; decide) (by rw [hR]; exact Nat.le_of_ble_eq_true rfl) (Nat.zero_le _) (Nat.zero_le _) dX10_strikesThen_19 ?_
        refine lv_topi (fun v19 e19 => ?_)
        have hv19 : iv v19 0 2147483647 := by rw [e19]; exact iv_max hj4_L2 (iv_top v16) (by decide)
        refine lv_istore_n (lv' := [(2, .int v19), (0, .ref a0), (1, .int x1), (3, .int j4_L3)]) hx hb dX10_strikesThen_22 rfl hl (by decide) rfl (fun ls hl => ?_)
        obtain ⟨v23, e23⟩ : ∃ y : Int32, y = j4_L3 + 1 := ⟨_, rfl⟩
        have hv23 : iv v23 1 8 := by rw [e23]; exact iv_w (iv_add hj4_L3_9l (iv_c (x := (1 : Int32)) (k := 1) (by decide)) (by decide)) (by decide)
        have s23 : v23.toInt = j4_L3.toInt + 1 := by rw [e23, iv_addE hj4_L3_9l (iv_c (x := (1 : Int32)) (k := 1) (by decide)) (by decide)]; rfl
        refine lv_iinc (v := v23) (lv' := [(3, .int v23), (2, .int v19), (0, .ref a0), (1, .int x1)]) hx hb dX10_strikesThen_23 hl (k := 3) rfl (by rw [e23]; rfl) (by decide) rfl (fun ls hl => ?_)
        refine lv_goto (tgt := 4) hx hb dX10_strikesThen_26 (by decide) ?_
        exact ih4 v19 v23 _ _ _ (ms_up hms4 (by have := s23; omega) (iv_w (c := 1) (d := 8) hv23 (by decide)).2) (iv_w hv19 (by decide)) (iv_w hv23 (by decide)) hT hS (lv_sub hl [2, 3, 1, 0] rfl)
  refine lv_istore_n (lv' := [(3, .int (0 : Int32)), (2, .int (0 : Int32)), (0, .ref a0), (1, .int x1)]) hx hb dX10_strikesThen_3 rfl hl (by decide) rfl (fun ls hl => ?_)
  exact J4 _ (0 : Int32) (0 : Int32) _ _ _ (Nat.lt_succ_self _) (iv_w (iv_c (x := (0 : Int32)) (k := 0) (by decide)) (by decide)) (iv_w (iv_c (x := (0 : Int32)) (k := 0) (by decide)) (by decide)) hT hS (lv_sub hl [2, 3, 1, 0] rfl)
set_option maxHeartbeats 4000000 in
set_option maxRecDepth 100000 in
theorem t_X10_valueOf (l : Launch) {D : va_G} {c0 : Nat → ClassId} {Y : Nat → Option Nat} {ν : Nat → Nat} {H : Heap} (hT : TI D vwCl (tysOf c0) (RTg ν) Y H) {a0 : Nat} (ha0 : Y a0 = some 10) {x1 : Int32} (hx1 : iv x1 0 7) {x2 : Int32} (hx2 : iv x2 (-2147483648) 2147483647) {x3 : Int32} (hx3 : iv x3 (-2147483648) 2147483647) {x4 : Int32} (hx4 : iv x4 (-2147483648) 2147483647) {x5 : Int32} (hx5 : iv x5 (-1) 7) (hi0 : 1 ≤ x4.toInt → 0 ≤ x5.toInt) (hU : uq Y) : Met l yX10_valueOf (wz yX10_valueOf cX10_valueOf 7 (some .int)) { frames := 4, cells := 0, slots := 0, locals := 139 } (TP D vwCl (tysOf c0) H [.ref a0, .int x1, .int x2, .int x3, .int x4, .int x5]) (TQi (fun x H' => TI D vwCl (tysOf c0) (RTg ν) Y H') Y [10, 29]) 0 0 (pW Y [10, 29]) := by
  refine Met.ofW (cc := cX10_valueOf) (maxL := 7) (ret := (some .int)) (by decide) rfl ?_
  intro p e s m args below meth c s₁ B hml hv
  obtain ⟨rfl, rfl, hK⟩ := hv
  have hx := B.exec
  have hb := B.bytes
  have hr := B.returns
  have hts : ∀ w ∈ wq, w.before _ s = true := fun w h => atoms_spec (ws := wz yX10_valueOf cX10_valueOf 7 (some .int)) B.pre w (List.mem_cons_of_mem _ h)
  have hown : s.vm.findClass RX10 = some m.cls := findClass_of_methodNamed B.named
  have hlocks := B.notSynchronized
  obtain ⟨R, hR⟩ : ∃ R : Room, R = ({ frames := 4, cells := 0, slots := 0, locals := 139 } : Room) := ⟨_, rfl⟩
  rw [show (headSpec (wz yX10_valueOf cX10_valueOf 7 (some .int)) { frames := 4, cells := 0, slots := 0, locals := 139 }).room = R from hR.symm]
  refine ti_mi hx hb hr hlocks (fun Q ret => ?_)
  have hl := lv_entry [.ref a0, .int x1, .int x2, .int x3, .int x4, .int x5] (n := 7) (Nat.le_of_ble_eq_true rfl)
  rw [lg_entry_eq]
  generalize (lg_sl [.ref a0, .int x1, .int x2, .int x3, .int x4, .int x5] ++ List.replicate (7 - (lg_sl [.ref a0, .int x1, .int x2, .int x3, .int x4, .int x5]).length) Slot.unset).toArray = ls at hl ⊢
  have hl : lv_has ls 7 [(0, .ref a0), (1, .int x1), (2, .int x2), (3, .int x3), (4, .int x4), (5, .int x5)] := hl
  refine ti_gen (P := fun H => TI D vwCl (tysOf c0) (RTg ν) Y H) (Y := Y) (ws := [10, 29]) hT (fun H locs hT hS => ?_)
  refine lv_iconst (v := 0) hx hb dX10_valueOf_0 (by decide) ?_
  have J3 : ∀ (n : Nat) (j3_L6 : Int32) (H : Heap) (locs : List Loc) (ls : Array Slot), (8 - j3_L6.toInt).toNat < n → iv j3_L6 0 8 → TI D vwCl (tysOf c0) (RTg ν) Y H → va_S (pW Y [10, 29]) s.heap H locs → lv_has ls 7 [(0, .ref a0), (1, .int x1), (2, .int x2), (3, .int x3), (4, .int x4), (5, .int x5), (6, .int j3_L6)] → W p l e R s m ([.ref a0, .int x1, .int x2, .int x3, .int x4, .int x5] : List Value).toArray below meth c H locs 0 0 Q (F0 m 3 ls []) := by
    intro n
    induction n with
    | zero => intro j3_L6 H locs ls hms; exact absurd hms (Nat.not_lt_zero _)
    | succ n ih3 =>
      intro j3_L6 H locs ls hms3 hj3_L6 hT hS hl
      refine lv_iload hx hb dX10_valueOf_3 (lv_at hl 6 rfl) ?_
      refine lv_aload_n hx hb dX10_valueOf_5 rfl (lv_at hl 0 rfl) ?_
      refine ti_calli (va_runV (As := []) (rest := [.int j3_L6]) ⟨hx, hb, hml, hown, hts⟩ (t_X10_people l hT ha0 hU) (cwV 0 hts (good_V kw_605 kw_606 kw_607 kw_5 kw_608) rfl rfl rfl (by decide +kernel) ⟨by rw [hR]; decide, by rw [hR]; decide⟩) (ti_preV hK hT ha0 rfl rfl) rfl rfl hl.1 rfl (lv_room (Nat.le_of_ble_eq_true rfl)) dX10_valueOf_6 ⟨Nat.zero_le _, Nat.zero_le _⟩) hS (pW_sub rfl) (fun v6 H1 locs hB hS _ hk6 => ?_)
      obtain ⟨hH, hv6, hp6⟩ := hB
      rw [hH] at hS ⊢
      refine lv_icmp_ge (tgt := 32) hx hb dX10_valueOf_9 (by decide) (fun c9 => ?_) (fun c9 => ?_)
      · skip
        have f9 := i_le c9
        refine lv_aload_n hx hb dX10_valueOf_32 rfl (lv_at hl 0 rfl) ?_
        refine lv_aload_n hx hb dX10_valueOf_33 rfl (lv_at hl 0 rfl) ?_
        refine lv_iload_n hx hb dX10_valueOf_34 rfl (lv_at hl 1 rfl) ?_
        refine lv_iconst (v := 1) hx hb dX10_valueOf_35 (by decide) ?_
        refine ti_calli (va_runV (As := [.int x1, .int (1 : Int32)]) (rest := [.ref a0]) ⟨hx, hb, hml, hown, hts⟩ (t_X10_of l hT ha0 (iv_w hx1 (by decide)) (iv_w (iv_c (x := (1 : Int32)) (k := 1) (by decide)) (by decide)) hU) (cwV 2 hts (good_V kw_490 kw_491 kw_492 kw_5 kw_493) rfl rfl rfl (by decide +kernel) ⟨by rw [hR]; decide, by rw [hR]; decide⟩) (ti_preV hK hT ha0 rfl rfl) rfl rfl hl.1 rfl (lv_room (Nat.le_of_ble_eq_true rfl)) dX10_valueOf_36 ⟨Nat.zero_le _, Nat.zero_le _⟩) hS (pW_sub rfl) (fun v36 H1 locs hB hS _ hk36 => ?_)
        obtain ⟨hH, hp36⟩ := hB
        rw [hH] at hS ⊢
        have kl1 : (1 : Int32).toInt = 1 := by decide
        refine ti_put (ty := .int) hx hb hts inlX10 tyX10 tyX10_ok nmX10 hown hK hT hS ha0 rfl rfl rfl rfl 22 (by decide) (hts _ kw_969) (fun _ h9 => h9) rfl rfl (by decide +kernel) rfl rfl ⟨v36, rfl, iv_w (iv_top v36) (by decide)⟩ (fun _ _ => trivial) dX10_valueOf_39 (fun H locs hT hS oq39 he39 hk39 => ?_)
        refine lv_aload_n hx hb dX10_valueOf_42 rfl (lv_at hl 0 rfl) ?_
        refine lv_aload_n hx hb dX10_valueOf_43 rfl (lv_at hl 0 rfl) ?_
        refine ti_getr hx hb hts inlX10 hown hK hT ha0 rfl rfl rfl 1 (by decide) (hts _ kw_130) (fun _ h9 => h9) rfl dX10_valueOf_44 (fun v44 hv44 hm44 => ?_)
        refine lv_bipush (v := 10) hx hb dX10_valueOf_47 (by decide) ?_
        refine ti_iald (lo := (-2147483648)) (hi := 2147483647) hx hb (aT0 hK) hT hv44 rfl (iv_c (x := (10 : Int32)) (k := 10) (by decide)) (by decide) (one_j 10 rfl rfl (by decide) (by decide)) dX10_valueOf_49 (fun v49 hv49 hm49 => ?_)
        refine ti_put (ty := .int) hx hb hts inlX10 tyX10 tyX10_ok nmX10 hown hK hT hS ha0 rfl rfl rfl rfl 23 (by decide) (hts _ kw_970) (fun _ h9 => h9) rfl rfl (by decide +kernel) rfl rfl ⟨v49, rfl, iv_w hv49 (by decide)⟩ (fun _ _ => trivial) dX10_valueOf_50 (fun H locs hT hS oq50 he50 hk50 => ?_)
        refine lv_aload_n hx hb dX10_valueOf_53 rfl (lv_at hl 0 rfl) ?_
        refine ti_getr hx hb hts inlX10 hown hK hT ha0 rfl rfl rfl 21 (by decide) (hts _ kw_141) (fun _ h9 => h9) rfl dX10_valueOf_54 (fun v54 hv54 hm54 => ?_)
        refine lv_iload_n hx hb dX10_valueOf_57 rfl (lv_at hl 1 rfl) ?_
        refine lv_aload_n hx hb dX10_valueOf_58 rfl (lv_at hl 0 rfl) ?_
        refine lv_iload_n hx hb dX10_valueOf_59 rfl (lv_at hl 1 rfl) ?_
        refine lv_iconst (v := 0) hx hb dX10_valueOf_60 (by decide) ?_
        refine ti_calli (va_runV (As := [.int x1, .int (0 : Int32)]) (rest := [.int x1, .ref v54]) ⟨hx, hb, hml, hown, hts⟩ (t_X10_of l hT ha0 (iv_w hx1 (by decide)) (iv_w (iv_c (x := (0 : Int32)) (k := 0) (by decide)) (by decide)) hU) (cwV 2 hts (good_V kw_490 kw_491 kw_492 kw_5 kw_493) rfl rfl rfl (by decide +kernel) ⟨by rw [hR]; decide, by rw [hR]; decide⟩) (ti_preV hK hT ha0 rfl rfl) rfl rfl hl.1 rfl (lv_room (Nat.le_of_ble_eq_true rfl)) dX10_valueOf_61 ⟨Nat.zero_le _, Nat.zero_le _⟩) hS (pW_sub rfl) (fun v61 H1 locs hB hS _ hk61 => ?_)
        obtain ⟨hH, hp61⟩ := hB
        rw [hH] at hS ⊢
        have kl0 : (0 : Int32).toInt = 0 := by decide
        have hf61 : iv v61 (-2147483648) 100000 := by have b0a := ((iv_top v61)).1; have b0b := ((iv_top v61)).2; exact ⟨by omega, by omega⟩
        refine ti_iast hx hb (aT0 hK) hT hS hv54 rfl rfl hx1 (by decide) (fun _ _ _ => ⟨_, _, rfl, by decide, by decide⟩) hf61 (fun _ _ => trivial) dX10_valueOf_64 (fun H locs hT hS oq64 he64 hk64 => ?_)
        refine lv_aload_n hx hb dX10_valueOf_65 rfl (lv_at hl 0 rfl) ?_
        refine lv_iload_n hx hb dX10_valueOf_66 rfl (lv_at hl 1 rfl) ?_
        refine lv_iload_n hx hb dX10_valueOf_67 rfl (lv_at hl 1 rfl) ?_
        refine lv_aload_n hx hb dX10_valueOf_68 rfl (lv_at hl 0 rfl) ?_
        refine lv_iload_n hx hb dX10_valueOf_69 rfl (lv_at hl 1 rfl) ?_
        refine lv_iload_n hx hb dX10_valueOf_70 rfl (lv_at hl 2 rfl) ?_
        refine ti_calli (va_runV (As := [.int x1, .int x2]) (rest := [.int x1, .int x1, .ref a0]) ⟨hx, hb, hml, hown, hts⟩ (t_X10_worked l hT ha0 (iv_w hx1 (by decide)) (iv_w hx2 (by decide)) hU) (cwV 2 hts (good_V kw_783 kw_784 kw_785 kw_5 kw_786) rfl rfl rfl (by decide +kernel) ⟨by rw [hR]; decide, by rw [hR]; decide⟩) (ti_preV hK hT ha0 rfl rfl) rfl rfl hl.1 rfl (lv_room (Nat.le_of_ble_eq_true rfl)) dX10_valueOf_71 ⟨Nat.zero_le _, Nat.zero_le _⟩) hS (pW_sub rfl) (fun v71 H1 locs hB hS _ hk71 => ?_)
        obtain ⟨hH, hv71⟩ := hB
        rw [hH] at hS ⊢
        refine ti_callv (va_runV (As := [.int x1, .int x1, .int v71]) (rest := []) ⟨hx, hb, hml, hown, hts⟩ (t_X10_holdsThen l hT ha0 (iv_w hx1 (by decide)) (iv_w hx1 (by decide)) (iv_w hv71 (by decide)) hU) (cwV 3 hts (good_V kw_971 kw_972 kw_973 kw_5 kw_974) rfl rfl rfl (by decide +kernel) ⟨by rw [hR]; decide, by rw [hR]; decide⟩) (ti_preV hK hT ha0 rfl rfl) rfl rfl hl.1 rfl (lv_room (Nat.le_of_ble_eq_true rfl)) dX10_valueOf_74 ⟨Nat.zero_le _, Nat.zero_le _⟩) hS (pW_sub rfl) (fun H locs hB hS _ hk74 => ?_)
        have hT := hB
        refine lv_aload_n hx hb dX10_valueOf_77 rfl (lv_at hl 0 rfl) ?_
        refine lv_iload_n hx hb dX10_valueOf_78 rfl (lv_at hl 1 rfl) ?_
        refine lv_iload_n hx hb dX10_valueOf_79 rfl (lv_at hl 1 rfl) ?_
        refine lv_aload_n hx hb dX10_valueOf_80 rfl (lv_at hl 0 rfl) ?_
        refine ti_getr hx hb hts inlX10 hown hK hT ha0 rfl rfl rfl 21 (by decide) (hts _ kw_141) (fun _ h9 => h9) rfl dX10_valueOf_81 (fun v81 hv81 hm81 => ?_)
        refine lv_iload_n hx hb dX10_valueOf_84 rfl (lv_at hl 1 rfl) ?_
        refine ti_iald (lo := (-2147483648)) (hi := 2147483647) hx hb (aT0 hK) hT hv81 rfl hx1 (by decide) (fun _ _ _ => ⟨_, _, rfl, by decide, by decide⟩) dX10_valueOf_85 (fun v85 hv85 hm85 => ?_)
        refine lv_iload_n hx hb dX10_valueOf_86 rfl (lv_at hl 3 rfl) ?_
        refine lv_isub hx hb dX10_valueOf_87 ?_
        refine lv_topi (fun v87 e87 => ?_)
        have hv87 : iv v87 (-2147483648) 2147483647 := iv_top _
        refine lv_iload hx hb dX10_valueOf_88 (lv_at hl 4 rfl) ?_
        refine lv_isub hx hb dX10_valueOf_90 ?_
        refine lv_topi (fun v90 e90 => ?_)
        have hv90 : iv v90 (-2147483648) 2147483647 := iv_top _
        refine ti_callv (va_runV (As := [.int x1, .int x1, .int v90]) (rest := []) ⟨hx, hb, hml, hown, hts⟩ (t_X10_holdsThen l hT ha0 (iv_w hx1 (by decide)) (iv_w hx1 (by decide)) (iv_w hv90 (by decide)) hU) (cwV 3 hts (good_V kw_971 kw_972 kw_973 kw_5 kw_974) rfl rfl rfl (by decide +kernel) ⟨by rw [hR]; decide, by rw [hR]; decide⟩) (ti_preV hK hT ha0 rfl rfl) rfl rfl hl.1 rfl (lv_room (Nat.le_of_ble_eq_true rfl)) dX10_valueOf_91 ⟨Nat.zero_le _, Nat.zero_le _⟩) hS (pW_sub rfl) (fun H locs hB hS _ hk91 => ?_)
        have hT := hB
        refine lv_iload hx hb dX10_valueOf_94 (lv_at hl 4 rfl) ?_
        have J116 : ∀  (H : Heap) (locs : List Loc) (ls : Array Slot), TI D vwCl (tysOf c0) (RTg ν) Y H → va_S (pW Y [10, 29]) s.heap H locs → lv_has ls 7 [(0, .ref a0), (1, .int x1), (2, .int x2), (3, .int x3), (4, .int x4), (5, .int x5), (6, .int j3_L6)] → W p l e R s m ([.ref a0, .int x1, .int x2, .int x3, .int x4, .int x5] : List Value).toArray below meth c H locs 0 0 Q (F0 m 116 ls []) := by
          intro  H locs ls  hT hS hl
          refine lv_aload_n hx hb dX10_valueOf_116 rfl (lv_at hl 0 rfl) ?_
          refine ti_getr hx hb hts inlX10 hown hK hT ha0 rfl rfl rfl 1 (by decide) (hts _ kw_130) (fun _ h9 => h9) rfl dX10_valueOf_117 (fun v117 hv117 hm117 => ?_)
          obtain rfl : v44 = v117 := hU 30 v44 v117 (by decide) hv44 hv117
          refine lv_bipush (v := 13) hx hb dX10_valueOf_120 (by decide) ?_
          refine ti_iald (lo := (-2147483648)) (hi := 2147483647) hx hb (aT0 hK) hT hv44 rfl (iv_c (x := (13 : Int32)) (k := 13) (by decide)) (by decide) (one_j 13 rfl rfl (by decide) (by decide)) dX10_valueOf_122 (fun v122 hv122 hm122 => ?_)
          have J131 : ∀  (H : Heap) (locs : List Loc) (ls : Array Slot), TI D vwCl (tysOf c0) (RTg ν) Y H → va_S (pW Y [10, 29]) s.heap H locs → lv_has ls 7 [(0, .ref a0), (1, .int x1), (2, .int x2), (3, .int x3), (4, .int x4), (5, .int x5), (6, .int j3_L6)] → W p l e R s m ([.ref a0, .int x1, .int x2, .int x3, .int x4, .int x5] : List Value).toArray below meth c H locs 0 0 Q (F0 m 131 ls []) := by
            intro  H locs ls  hT hS hl
            refine lv_aload_n hx hb dX10_valueOf_131 rfl (lv_at hl 0 rfl) ?_
            refine lv_iload_n hx hb dX10_valueOf_132 rfl (lv_at hl 1 rfl) ?_
            refine lv_bipush (v := 7) hx hb dX10_valueOf_133 (by decide) ?_
            refine ti_calli (va_runV (As := [.int x1, .int (7 : Int32)]) (rest := []) ⟨hx, hb, hml, hown, hts⟩ (t_X10_of l hT ha0 (iv_w hx1 (by decide)) (iv_w (iv_c (x := (7 : Int32)) (k := 7) (by decide)) (by decide)) hU) (cwV 2 hts (good_V kw_490 kw_491 kw_492 kw_5 kw_493) rfl rfl rfl (by decide +kernel) ⟨by rw [hR]; decide, by rw [hR]; decide⟩) (ti_preV hK hT ha0 rfl rfl) rfl rfl hl.1 rfl (lv_room (Nat.le_of_ble_eq_true rfl)) dX10_valueOf_135 ⟨Nat.zero_le _, Nat.zero_le _⟩) hS (pW_sub rfl) (fun v135 H1 locs hB hS _ hk135 => ?_)
            obtain ⟨hH, hp135⟩ := hB
            rw [hH] at hS ⊢
            have kl7 : (7 : Int32).toInt = 7 := by decide
            refine lv_aload_n hx hb dX10_valueOf_138 rfl (lv_at hl 0 rfl) ?_
            refine ti_getr hx hb hts inlX10 hown hK hT ha0 rfl rfl rfl 21 (by decide) (hts _ kw_141) (fun _ h9 => h9) rfl dX10_valueOf_139 (fun v139 hv139 hm139 => ?_)
            refine lv_iload_n hx hb dX10_valueOf_142 rfl (lv_at hl 1 rfl) ?_
            refine ti_iald (lo := (-2147483648)) (hi := 2147483647) hx hb (aT0 hK) hT hv139 rfl hx1 (by decide) (fun _ _ _ => ⟨_, _, rfl, by decide, by decide⟩) dX10_valueOf_143 (fun v143 hv143 hm143 => ?_)
            refine lv_imul hx hb dX10_valueOf_144 ?_
            refine lv_topi (fun v144 e144 => ?_)
            have hv144 : iv v144 (-2147483648) 2147483647 := iv_top _
            refine lv_aload_n hx hb dX10_valueOf_145 rfl (lv_at hl 0 rfl) ?_
            refine lv_iload_n hx hb dX10_valueOf_146 rfl (lv_at hl 1 rfl) ?_
            refine lv_iload_n hx hb dX10_valueOf_147 rfl (lv_at hl 3 rfl) ?_
            refine ti_calli (va_runV (As := [.int x1, .int x3]) (rest := [.int v144]) ⟨hx, hb, hml, hown, hts⟩ (t_X10_joy l hT ha0 (iv_w hx1 (by decide)) (iv_w hx3 (by decide)) hU) (cwV 2 hts (good_V kw_791 kw_792 kw_793 kw_5 kw_794) rfl rfl rfl (by decide +kernel) ⟨by rw [hR]; decide, by rw [hR]; decide⟩) (ti_preV hK hT ha0 rfl rfl) rfl rfl hl.1 rfl (lv_room (Nat.le_of_ble_eq_true rfl)) dX10_valueOf_148 ⟨Nat.zero_le _, Nat.zero_le _⟩) hS (pW_sub rfl) (fun v148 H1 locs hB hS _ hk148 => ?_)
            have hH := hB
            rw [hH] at hS ⊢
            refine lv_iadd hx hb dX10_valueOf_151 ?_
            refine lv_topi (fun v151 e151 => ?_)
            have hv151 : iv v151 (-2147483648) 2147483647 := iv_top _
            refine lv_iload_n hx hb dX10_valueOf_152 rfl (lv_at hl 2 rfl) ?_
            refine lv_aload_n hx hb dX10_valueOf_153 rfl (lv_at hl 0 rfl) ?_
            refine lv_iload_n hx hb dX10_valueOf_154 rfl (lv_at hl 1 rfl) ?_
            refine lv_bipush (v := 6) hx hb dX10_valueOf_155 (by decide) ?_
            refine ti_calli (va_runV (As := [.int x1, .int (6 : Int32)]) (rest := [.int x2, .int v151]) ⟨hx, hb, hml, hown, hts⟩ (t_X10_of l hT ha0 (iv_w hx1 (by decide)) (iv_w (iv_c (x := (6 : Int32)) (k := 6) (by decide)) (by decide)) hU) (cwV 2 hts (good_V kw_490 kw_491 kw_492 kw_5 kw_493) rfl rfl rfl (by decide +kernel) ⟨by rw [hR]; decide, by rw [hR]; decide⟩) (ti_preV hK hT ha0 rfl rfl) rfl rfl hl.1 rfl (lv_room (Nat.le_of_ble_eq_true rfl)) dX10_valueOf_157 ⟨Nat.zero_le _, Nat.zero_le _⟩) hS (pW_sub rfl) (fun v157 H1 locs hB hS _ hk157 => ?_)
            obtain ⟨hH, hp157⟩ := hB
            rw [hH] at hS ⊢
            have kl6 : (6 : Int32).toInt = 6 := by decide
            refine lv_imul hx hb dX10_valueOf_160 ?_
            refine lv_topi (fun v160 e160 => ?_)
            have hv160 : iv v160 (-2147483648) 2147483647 := iv_top _
            refine lv_isub hx hb dX10_valueOf_161 ?_
            refine lv_topi (fun v161 e161 => ?_)
            have hv161 : iv v161 (-2147483648) 2147483647 := iv_top _
            exact ret _ _ _ _ _ dX10_valueOf_162 (hT) hS
          refine lv_if_ne (tgt := 131) hx hb dX10_valueOf_123 (by decide) (fun c123 => ?_) (fun c123 => ?_)
          · skip
            have f123 := i_ne c123
            exact J131  _ _ _   hT hS (lv_sub hl [0, 1, 2, 3, 4, 5, 6] rfl)
          · skip
            have f123 := i_eq c123
            have hv122_123l : iv v122 0 0 := iv_eql hv122 (iv_c (x := (0 : Int32)) (k := 0) (by decide)) c123 (by decide)
            refine lv_aload_n hx hb dX10_valueOf_126 rfl (lv_at hl 0 rfl) ?_
            refine lv_iload_n hx hb dX10_valueOf_127 rfl (lv_at hl 1 rfl) ?_
            refine ti_callv (va_runV (As := [.int x1]) (rest := []) ⟨hx, hb, hml, hown, hts⟩ (t_X10_strikesThen l hT ha0 (iv_w hx1 (by decide)) hU) (cwV 1 hts (good_V kw_975 kw_976 kw_977 kw_5 kw_978) rfl rfl rfl (by decide +kernel) ⟨by rw [hR]; decide, by rw [hR]; decide⟩) (ti_preV hK hT ha0 rfl rfl) rfl rfl hl.1 rfl (lv_room (Nat.le_of_ble_eq_true rfl)) dX10_valueOf_128 ⟨Nat.zero_le _, Nat.zero_le _⟩) hS (pW_sub rfl) (fun H locs hB hS _ hk128 => ?_)
            have hT := hB
            exact J131  _ _ _   hT hS (lv_sub hl [0, 1, 2, 3, 4, 5, 6] rfl)
        refine lv_if_le (tgt := 116) hx hb dX10_valueOf_96 (by decide) (fun c96 => ?_) (fun c96 => ?_)
        · skip
          have f96 := i_le c96
          have hx4_96l : iv x4 (-2147483648) 0 := iv_lel hx4 (iv_c (x := (0 : Int32)) (k := 0) (by decide)) c96 (by decide)
          exact J116  _ _ _   hT hS (lv_sub hl [0, 1, 2, 3, 4, 5, 6] rfl)
        · skip
          have f96 := i_nle c96
          have hx4_96r : iv x4 1 2147483647 := iv_ltr (iv_c (x := (0 : Int32)) (k := 0) (by decide)) hx4 (Int32.not_le.mp c96) (by decide)
          have hq96_17 : iv x5 0 7 := by have := hi0; have b0a := (hx4_96r).1; have b0b := (hx4_96r).2; have b1a := (hx5).1; have b1b := (hx5).2; exact ⟨by omega, by omega⟩
          refine lv_aload_n hx hb dX10_valueOf_99 rfl (lv_at hl 0 rfl) ?_
          refine lv_iload_n hx hb dX10_valueOf_100 rfl (lv_at hl 1 rfl) ?_
          refine lv_iload hx hb dX10_valueOf_101 (lv_at hl 5 rfl) ?_
          refine lv_aload_n hx hb dX10_valueOf_103 rfl (lv_at hl 0 rfl) ?_
          refine ti_getr hx hb hts inlX10 hown hK hT ha0 rfl rfl rfl 21 (by decide) (hts _ kw_141) (fun _ h9 => h9) rfl dX10_valueOf_104 (fun v104 hv104 hm104 => ?_)
          refine lv_iload hx hb dX10_valueOf_107 (lv_at hl 5 rfl) ?_
          refine ti_iald (lo := (-2147483648)) (hi := 2147483647) hx hb (aT0 hK) hT hv104 rfl hq96_17 (by decide) (fun _ _ _ => ⟨_, _, rfl, by decide, by decide⟩) dX10_valueOf_109 (fun v109 hv109 hm109 => ?_)
          refine lv_iload hx hb dX10_valueOf_110 (lv_at hl 4 rfl) ?_
          refine lv_iadd hx hb dX10_valueOf_112 ?_
          refine lv_topi (fun v112 e112 => ?_)
          have hv112 : iv v112 (-2147483648) 2147483647 := iv_top _
          refine ti_callv (va_runV (As := [.int x1, .int x5, .int v112]) (rest := []) ⟨hx, hb, hml, hown, hts⟩ (t_X10_holdsThen l hT ha0 (iv_w hx1 (by decide)) (iv_w hq96_17 (by decide)) (iv_w hv112 (by decide)) hU) (cwV 3 hts (good_V kw_971 kw_972 kw_973 kw_5 kw_974) rfl rfl rfl (by decide +kernel) ⟨by rw [hR]; decide, by rw [hR]; decide⟩) (ti_preV hK hT ha0 rfl rfl) rfl rfl hl.1 rfl (lv_room (Nat.le_of_ble_eq_true rfl)) dX10_valueOf_113 ⟨Nat.zero_le _, Nat.zero_le _⟩) hS (pW_sub rfl) (fun H locs hB hS _ hk113 => ?_)
          have hT := hB
          exact J116  _ _ _   hT hS (lv_sub hl [0, 1, 2, 3, 4, 5, 6] rfl)
      · skip
        have f9 := i_nle c9
        have hj3_L6_9l : iv j3_L6 0 7 := iv_ltl hj3_L6 hv6 (Int32.not_le.mp c9) (by decide)
        have hv6_9r : iv v6 1 8 := iv_ltr hj3_L6_9l hv6 (Int32.not_le.mp c9) (by decide)
        refine lv_aload_n hx hb dX10_valueOf_12 rfl (lv_at hl 0 rfl) ?_
        refine ti_getr hx hb hts inlX10 hown hK hT ha0 rfl rfl rfl 21 (by decide) (hts _ kw_141) (fun _ h9 => h9) rfl dX10_valueOf_13 (fun v13 hv13 hm13 => ?_)
        refine lv_iload hx hb dX10_valueOf_16 (lv_at hl 6 rfl) ?_
        refine lv_aload_n hx hb dX10_valueOf_18 rfl (lv_at hl 0 rfl) ?_
        refine ti_getr hx hb hts inlX10 hown hK hT ha0 rfl rfl rfl 20 (by decide) (hts _ kw_140) (fun _ h9 => h9) rfl dX10_valueOf_19 (fun v19 hv19 hm19 => ?_)
        refine lv_iload hx hb dX10_valueOf_22 (lv_at hl 6 rfl) ?_
        refine ti_iald (lo := (-2147483648)) (hi := 2147483647) hx hb (aT0 hK) hT hv19 rfl hj3_L6_9l (by decide) (fun _ _ _ => ⟨_, _, rfl, by decide, by decide⟩) dX10_valueOf_24 (fun v24 hv24 hm24 => ?_)
        refine ti_iast hx hb (aT0 hK) hT hS hv13 rfl rfl hj3_L6_9l (by decide) (fun _ _ _ => ⟨_, _, rfl, by decide, by decide⟩) hv24 (fun _ _ => trivial) dX10_valueOf_25 (fun H locs hT hS oq25 he25 hk25 => ?_)
        obtain ⟨v26, e26⟩ : ∃ y : Int32, y = j3_L6 + 1 := ⟨_, rfl⟩
        have hv26 : iv v26 1 8 := by rw [e26]; exact iv_w (iv_add hj3_L6_9l (iv_c (x := (1 : Int32)) (k := 1) (by decide)) (by decide)) (by decide)
        have s26 : v26.toInt = j3_L6.toInt + 1 := by rw [e26, iv_addE hj3_L6_9l (iv_c (x := (1 : Int32)) (k := 1) (by decide)) (by decide)]; rfl
        refine lv_iinc (v := v26) (lv' := [(6, .int v26), (0, .ref a0), (1, .int x1), (2, .int x2), (3, .int x3), (4, .int x4), (5, .int x5)]) hx hb dX10_valueOf_26 hl (k := 6) rfl (by rw [e26]; rfl) (by decide) rfl (fun ls hl => ?_)
        refine lv_goto (tgt := 3) hx hb dX10_valueOf_29 (by decide) ?_
        exact ih3 v26 _ _ _ (ms_up hms3 (by have := s26; omega) (iv_w (c := 1) (d := 8) hv26 (by decide)).2) (iv_w hv26 (by decide)) hT hS (lv_sub hl [1, 2, 3, 4, 5, 6, 0] rfl)
  refine lv_istore (lv' := [(6, .int (0 : Int32)), (0, .ref a0), (1, .int x1), (2, .int x2), (3, .int x3), (4, .int x4), (5, .int x5)]) hx hb dX10_valueOf_1 hl (by decide) rfl (fun ls hl => ?_)
  exact J3 _ (0 : Int32) _ _ _ (Nat.lt_succ_self _) (iv_w (iv_c (x := (0 : Int32)) (k := 0) (by decide)) (by decide)) hT hS (lv_sub hl [1, 2, 3, 4, 5, 6, 0] rfl)
set_option maxHeartbeats 4000000 in
set_option maxRecDepth 100000 in
theorem t_X10_value (l : Launch) {D : va_G} {c0 : Nat → ClassId} {Y : Nat → Option Nat} {ν : Nat → Nat} {H : Heap} (hT : TI D vwCl (tysOf c0) (RTg ν) Y H) {a0 : Nat} (ha0 : Y a0 = some 10) {x1 : Int32} (hx1 : iv x1 (-2147483648) 2147483647) {x2 : Int32} (hx2 : iv x2 (-2147483648) 2147483647) {x3 : Int32} (hx3 : iv x3 (-2147483648) 2147483647) {x4 : Int32} (hx4 : iv x4 (-2147483648) 2147483647) {x5 : Int32} (hx5 : iv x5 (-2147483648) 2147483647) (hU : uq Y) : Met l yX10_value (wz yX10_value cX10_value 6 (some .int)) { frames := 5, cells := 0, slots := 0, locals := 165 } (TP D vwCl (tysOf c0) H [.ref a0, .int x1, .int x2, .int x3, .int x4, .int x5]) (TQi (fun x H' => TI D vwCl (tysOf c0) (RTg ν) Y H') Y [10, 29]) 0 0 (pW Y [10, 29]) := by
  refine Met.ofW (cc := cX10_value) (maxL := 6) (ret := (some .int)) (by decide) rfl ?_
  intro p e s m args below meth c s₁ B hml hv
  obtain ⟨rfl, rfl, hK⟩ := hv
  have hx := B.exec
  have hb := B.bytes
  have hr := B.returns
  have hts : ∀ w ∈ wq, w.before _ s = true := fun w h => atoms_spec (ws := wz yX10_value cX10_value 6 (some .int)) B.pre w (List.mem_cons_of_mem _ h)
  have hown : s.vm.findClass RX10 = some m.cls := findClass_of_methodNamed B.named
  have hlocks := B.notSynchronized
  obtain ⟨R, hR⟩ : ∃ R : Room, R = ({ frames := 5, cells := 0, slots := 0, locals := 165 } : Room) := ⟨_, rfl⟩
  rw [show (headSpec (wz yX10_value cX10_value 6 (some .int)) { frames := 5, cells := 0, slots := 0, locals := 165 }).room = R from hR.symm]
  refine ti_mi hx hb hr hlocks (fun Q ret => ?_)
  have hl := lv_entry [.ref a0, .int x1, .int x2, .int x3, .int x4, .int x5] (n := 6) (Nat.le_of_ble_eq_true rfl)
  rw [lg_entry_eq]
  generalize (lg_sl [.ref a0, .int x1, .int x2, .int x3, .int x4, .int x5] ++ List.replicate (6 - (lg_sl [.ref a0, .int x1, .int x2, .int x3, .int x4, .int x5]).length) Slot.unset).toArray = ls at hl ⊢
  have hl : lv_has ls 6 [(0, .ref a0), (1, .int x1), (2, .int x2), (3, .int x3), (4, .int x4), (5, .int x5)] := hl
  refine ti_gen (P := fun H => TI D vwCl (tysOf c0) (RTg ν) Y H) (Y := Y) (ws := [10, 29]) hT (fun H locs hT hS => ?_)
  refine lv_aload_n hx hb dX10_value_0 rfl (lv_at hl 0 rfl) ?_
  refine lv_iload_n hx hb dX10_value_1 rfl (lv_at hl 1 rfl) ?_
  refine lv_iload_n hx hb dX10_value_2 rfl (lv_at hl 2 rfl) ?_
  refine lv_iload_n hx hb dX10_value_3 rfl (lv_at hl 3 rfl) ?_
  refine lv_iload hx hb dX10_value_4 (lv_at hl 4 rfl) ?_
  refine lv_iload hx hb dX10_value_6 (lv_at hl 5 rfl) ?_
  refine ti_calli (va_runV (As := [.int x1, .int x2, .int x3, .int x4, .int x5]) (rest := []) ⟨hx, hb, hml, hown, hts⟩ (t_X10_why l hT ha0 (iv_w hx1 (by decide)) (iv_w hx2 (by decide)) (iv_w hx3 (by decide)) (iv_w hx4 (by decide)) (iv_w hx5 (by decide)) hU) (cwV 5 hts (good_V kw_779 kw_780 kw_781 kw_5 kw_782) rfl rfl rfl (by decide +kernel) ⟨by rw [hR]; decide, by rw [hR]; decide⟩) (ti_preV hK hT ha0 rfl rfl) rfl rfl hl.1 rfl (lv_room (Nat.le_of_ble_eq_true rfl)) dX10_value_8 ⟨Nat.zero_le _, Nat.zero_le _⟩) hS (pW_sub rfl) (fun v8 H1 locs hB hS _ hk8 => ?_)
  obtain ⟨hH, hv8, hp8⟩ := hB
  rw [hH] at hS ⊢
  refine lv_if_ge (tgt := 18) hx hb dX10_value_11 (by decide) (fun c11 => ?_) (fun c11 => ?_)
  · skip
    have kl0 : (0 : Int32).toInt = 0 := by decide
    have f11 := i_le c11
    have hv8_11r : iv v8 0 0 := iv_ler (iv_c (x := (0 : Int32)) (k := 0) (by decide)) hv8 c11 (by decide)
    have hx1_11p : iv x1 0 7 := by have b0a := (hx1).1; have b0b := (hx1).2; exact ⟨by omega, by omega⟩
    have hx5_11p : iv x5 (-1) 7 := by have b0a := (hx5).1; have b0b := (hx5).2; exact ⟨by omega, by omega⟩
    refine lv_aload_n hx hb dX10_value_18 rfl (lv_at hl 0 rfl) ?_
    refine lv_iload_n hx hb dX10_value_19 rfl (lv_at hl 1 rfl) ?_
    refine ti_callv (va_runV (As := [.int x1]) (rest := []) ⟨hx, hb, hml, hown, hts⟩ (t_X10_guesses l hT ha0 (iv_w hx1_11p (by decide)) hU) (cwV 1 hts (good_V kw_952 kw_953 kw_954 kw_5 kw_955) rfl rfl rfl (by decide +kernel) ⟨by rw [hR]; decide, by rw [hR]; decide⟩) (ti_preV hK hT ha0 rfl rfl) rfl rfl hl.1 rfl (lv_room (Nat.le_of_ble_eq_true rfl)) dX10_value_20 ⟨Nat.zero_le _, Nat.zero_le _⟩) hS (pW_sub rfl) (fun H locs hB hS _ hk20 => ?_)
    have hT := hB
    refine lv_aload_n hx hb dX10_value_23 rfl (lv_at hl 0 rfl) ?_
    refine lv_iload_n hx hb dX10_value_24 rfl (lv_at hl 1 rfl) ?_
    refine lv_iload_n hx hb dX10_value_25 rfl (lv_at hl 2 rfl) ?_
    refine lv_iload_n hx hb dX10_value_26 rfl (lv_at hl 3 rfl) ?_
    refine lv_iload hx hb dX10_value_27 (lv_at hl 4 rfl) ?_
    refine lv_iload hx hb dX10_value_29 (lv_at hl 5 rfl) ?_
    refine ti_calli (va_runV (As := [.int x1, .int x2, .int x3, .int x4, .int x5]) (rest := []) ⟨hx, hb, hml, hown, hts⟩ (t_X10_valueOf l hT ha0 (iv_w hx1_11p (by decide)) (iv_w hx2 (by decide)) (iv_w hx3 (by decide)) (iv_w hx4 (by decide)) (iv_w hx5_11p (by decide)) (fun h9 => by have b0a := (hx4).1; have b0b := (hx4).2; have b1a := (hx5_11p).1; have b1b := (hx5_11p).2; omega) hU) (cwV 5 hts (good_V kw_965 kw_966 kw_967 kw_5 kw_968) rfl rfl rfl (by decide +kernel) ⟨by rw [hR]; decide, by rw [hR]; decide⟩) (ti_preV hK hT ha0 rfl rfl) rfl rfl hl.1 rfl (lv_room (Nat.le_of_ble_eq_true rfl)) dX10_value_31 ⟨Nat.zero_le _, Nat.zero_le _⟩) hS (pW_sub rfl) (fun v31 H locs hB hS _ hk31 => ?_)
    have hT := hB
    exact ret _ _ _ _ _ dX10_value_34 (hT) hS
  · skip
    have kl0 : (0 : Int32).toInt = 0 := by decide
    have f11 := i_nle c11
    have hv8_11l : iv v8 (-5) (-1) := iv_ltl hv8 (iv_c (x := (0 : Int32)) (k := 0) (by decide)) (Int32.not_le.mp c11) (by decide)
    refine lv_ldcw (v := (-2000000000)) hx hb hown (hts _ kw_960) dX10_value_14 ?_
    exact ret _ _ _ _ _ dX10_value_17 (hT) hS
set_option maxHeartbeats 4000000 in
set_option maxRecDepth 100000 in
theorem t_X10_tries (l : Launch) {D : va_G} {c0 : Nat → ClassId} {Y : Nat → Option Nat} {ν : Nat → Nat} {H : Heap} (hT : TI D vwCl (tysOf c0) (RTg ν) Y H) {a0 : Nat} (ha0 : Y a0 = some 10) {x1 : Int32} (hx1 : iv x1 0 7) {x2 : Int32} (hx2 : iv x2 0 1) {x3 : Int32} (hx3 : iv x3 0 100000) {x4 : Int32} (hx4 : iv x4 0 100000) {x5 : Int32} (hx5 : iv x5 (-1) 7) (hi0 : 1 ≤ x4.toInt → 0 ≤ x5.toInt) (hU : uq Y) : Met l yX10_tries (wz yX10_tries cX10_tries 7 none) { frames := 5, cells := 0, slots := 0, locals := 165 } (TP D vwCl (tysOf c0) H [.ref a0, .int x1, .int x2, .int x3, .int x4, .int x5]) (TQv (fun H' => TI D vwCl (tysOf c0) (RTg ν) Y H') Y [10, 29, 43]) 0 0 (pW Y [10, 29, 43]) := by
  refine Met.ofW (cc := cX10_tries) (maxL := 7) (ret := none) (by decide) rfl ?_
  intro p e s m args below meth c s₁ B hml hv
  obtain ⟨rfl, rfl, hK⟩ := hv
  have hx := B.exec
  have hb := B.bytes
  have hr := B.returns
  have hts : ∀ w ∈ wq, w.before _ s = true := fun w h => atoms_spec (ws := wz yX10_tries cX10_tries 7 none) B.pre w (List.mem_cons_of_mem _ h)
  have hown : s.vm.findClass RX10 = some m.cls := findClass_of_methodNamed B.named
  have hlocks := B.notSynchronized
  obtain ⟨R, hR⟩ : ∃ R : Room, R = ({ frames := 5, cells := 0, slots := 0, locals := 165 } : Room) := ⟨_, rfl⟩
  rw [show (headSpec (wz yX10_tries cX10_tries 7 none) { frames := 5, cells := 0, slots := 0, locals := 165 }).room = R from hR.symm]
  refine ti_mv hx hb hr hlocks (fun Q ret => ?_)
  have hl := lv_entry [.ref a0, .int x1, .int x2, .int x3, .int x4, .int x5] (n := 7) (Nat.le_of_ble_eq_true rfl)
  rw [lg_entry_eq]
  generalize (lg_sl [.ref a0, .int x1, .int x2, .int x3, .int x4, .int x5] ++ List.replicate (7 - (lg_sl [.ref a0, .int x1, .int x2, .int x3, .int x4, .int x5]).length) Slot.unset).toArray = ls at hl ⊢
  have hl : lv_has ls 7 [(0, .ref a0), (1, .int x1), (2, .int x2), (3, .int x3), (4, .int x4), (5, .int x5)] := hl
  refine ti_gen (P := fun H => TI D vwCl (tysOf c0) (RTg ν) Y H) (Y := Y) (ws := [10, 29, 43]) hT (fun H locs hT hS => ?_)
  refine lv_aload_n hx hb dX10_tries_0 rfl (lv_at hl 0 rfl) ?_
  refine lv_iload_n hx hb dX10_tries_1 rfl (lv_at hl 1 rfl) ?_
  refine lv_iload_n hx hb dX10_tries_2 rfl (lv_at hl 2 rfl) ?_
  refine lv_iload_n hx hb dX10_tries_3 rfl (lv_at hl 3 rfl) ?_
  refine lv_iload hx hb dX10_tries_4 (lv_at hl 4 rfl) ?_
  refine lv_iload hx hb dX10_tries_6 (lv_at hl 5 rfl) ?_
  refine ti_calli (va_runV (As := [.int x1, .int x2, .int x3, .int x4, .int x5]) (rest := []) ⟨hx, hb, hml, hown, hts⟩ (t_X10_valueOf l hT ha0 (iv_w hx1 (by decide)) (iv_w hx2 (by decide)) (iv_w hx3 (by decide)) (iv_w hx4 (by decide)) (iv_w hx5 (by decide)) (fun h9 => by have b0a := (hx4).1; have b0b := (hx4).2; have b1a := (hx5).1; have b1b := (hx5).2; omega) hU) (cwV 5 hts (good_V kw_965 kw_966 kw_967 kw_5 kw_968) rfl rfl rfl (by decide +kernel) ⟨by rw [hR]; decide, by rw [hR]; decide⟩) (ti_preV hK hT ha0 rfl rfl) rfl rfl hl.1 rfl (lv_room (Nat.le_of_ble_eq_true rfl)) dX10_tries_8 ⟨Nat.zero_le _, Nat.zero_le _⟩) hS (pW_sub rfl) (fun v8 H locs hB hS _ hk8 => ?_)
  have hT := hB
  refine lv_istore (lv' := [(6, .int v8), (0, .ref a0), (1, .int x1), (2, .int x2), (3, .int x3), (4, .int x4), (5, .int x5)]) hx hb dX10_tries_11 hl (by decide) rfl (fun ls hl => ?_)
  refine lv_iload hx hb dX10_tries_13 (lv_at hl 0 rfl) ?_
  refine lv_aload_n hx hb dX10_tries_15 rfl (lv_at hl 1 rfl) ?_
  refine ti_getr hx hb hts inlX10 hown hK hT ha0 rfl rfl rfl 24 (by decide) (hts _ kw_142) (fun _ h9 => h9) rfl dX10_tries_16 (fun v16 hv16 hm16 => ?_)
  refine lv_iconst (v := 0) hx hb dX10_tries_19 (by decide) ?_
  refine ti_iald (lo := (-2147483648)) (hi := 2147483647) hx hb (aT0 hK) hT hv16 rfl (iv_c (x := (0 : Int32)) (k := 0) (by decide)) (by decide) (one_j 0 rfl rfl (by decide) (by decide)) dX10_tries_20 (fun v20 hv20 hm20 => ?_)
  refine lv_icmp_gt (tgt := 25) hx hb dX10_tries_21 (by decide) (fun c21 => ?_) (fun c21 => ?_)
  · skip
    have f21 := i_lt c21
    have hv20_21l : iv v20 (-2147483648) 2147483646 := iv_ltl hv20 (iv_top v8) c21 (by decide)
    have hv8_21r : iv v8 (-2147483647) 2147483647 := iv_ltr hv20_21l (iv_top v8) c21 (by decide)
    refine lv_aload_n hx hb dX10_tries_25 rfl (lv_at hl 1 rfl) ?_
    refine ti_getE (ci := 10) (v := .ref v16) hx hb hts inlX10 hown hK hm16 rfl (by decide) (hts _ kw_142) (fun _ h9 => h9) dX10_tries_26 ?_
    refine lv_iconst (v := 0) hx hb dX10_tries_29 (by decide) ?_
    refine lv_iload hx hb dX10_tries_30 (lv_at hl 0 rfl) ?_
    refine ti_iast hx hb (aT0 hK) hT hS hv16 rfl rfl (iv_c (x := (0 : Int32)) (k := 0) (by decide)) (by decide) (one_s 0 rfl rfl (by decide) (by decide)) hv8_21r (best_set (by decide) (by decide)) dX10_tries_32 (fun H locs hT hS oq32 he32 hk32 => ?_)
    refine lv_aload_n hx hb dX10_tries_33 rfl (lv_at hl 1 rfl) ?_
    refine ti_getE (ci := 10) (v := .ref v16) hx hb hts inlX10 hown hK (hm16.kept (oq32 _ (ne_r ha0 hv16 rfl))) rfl (by decide) (hts _ kw_142) (fun _ h9 => h9) dX10_tries_34 ?_
    refine lv_iconst (v := 1) hx hb dX10_tries_37 (by decide) ?_
    refine lv_iload_n hx hb dX10_tries_38 rfl (lv_at hl 3 rfl) ?_
    refine ti_iast hx hb (aT0 hK) hT hS hv16 rfl rfl (iv_c (x := (1 : Int32)) (k := 1) (by decide)) (by decide) (one_s 1 rfl rfl (by decide) (by decide)) hx2 (best_set (by decide) (by decide)) dX10_tries_39 (fun H locs hT hS oq39 he39 hk39 => ?_)
    refine lv_aload_n hx hb dX10_tries_40 rfl (lv_at hl 1 rfl) ?_
    refine ti_getE (ci := 10) (v := .ref v16) hx hb hts inlX10 hown hK ((hm16.kept (oq32 _ (ne_r ha0 hv16 rfl))).kept (oq39 _ (ne_r ha0 hv16 rfl))) rfl (by decide) (hts _ kw_142) (fun _ h9 => h9) dX10_tries_41 ?_
    refine lv_iconst (v := 2) hx hb dX10_tries_44 (by decide) ?_
    refine lv_iload_n hx hb dX10_tries_45 rfl (lv_at hl 4 rfl) ?_
    refine ti_iast hx hb (aT0 hK) hT hS hv16 rfl rfl (iv_c (x := (2 : Int32)) (k := 2) (by decide)) (by decide) (one_s 2 rfl rfl (by decide) (by decide)) hx3 (best_set (by decide) (by decide)) dX10_tries_46 (fun H locs hT hS oq46 he46 hk46 => ?_)
    refine lv_aload_n hx hb dX10_tries_47 rfl (lv_at hl 1 rfl) ?_
    refine ti_getE (ci := 10) (v := .ref v16) hx hb hts inlX10 hown hK (((hm16.kept (oq32 _ (ne_r ha0 hv16 rfl))).kept (oq39 _ (ne_r ha0 hv16 rfl))).kept (oq46 _ (ne_r ha0 hv16 rfl))) rfl (by decide) (hts _ kw_142) (fun _ h9 => h9) dX10_tries_48 ?_
    refine lv_iconst (v := 3) hx hb dX10_tries_51 (by decide) ?_
    refine lv_iload hx hb dX10_tries_52 (lv_at hl 5 rfl) ?_
    refine xast hx hb (aT0 hK) hT hS hv16 rfl rfl (iv_c (x := (3 : Int32)) (k := 3) (by decide)) (by decide) dX10_tries_54 (fun cA ty f H1 locs hc hf _ he1 hS oa => ?_)
    cases hc
    refine lv_aload_n hx hb dX10_tries_55 rfl (lv_at hl 1 rfl) ?_
    refine ti_getE (ci := 10) (v := .ref v16) hx hb hts inlX10 hown hK ((((hm16.kept (oq32 _ (ne_r ha0 hv16 rfl))).kept (oq39 _ (ne_r ha0 hv16 rfl))).kept (oq46 _ (ne_r ha0 hv16 rfl))).kept (oa _ (ne_r ha0 hv16 rfl))) rfl (by decide) (hts _ kw_142) (fun _ h9 => h9) dX10_tries_56 ?_
    refine lv_iconst (v := 4) hx hb dX10_tries_59 (by decide) ?_
    refine lv_iload hx hb dX10_tries_60 (lv_at hl 6 rfl) ?_
    refine xastR hx hb (hK.2 0 _ rfl).1 he1 hS ⟨43, rfl, hv16⟩ (iv_c (x := (4 : Int32)) (k := 4) (by decide)) (by decide) dX10_tries_62 (fun H locs e2 hS ob => ?_)
    have hT := best_put (f2 := f) hT hv16 rfl rfl hf he1 e2 oa ob (iv_w hx5 (by decide)) (fun h9 => by have b0a := (hx4).1; have b0b := (hx4).2; have b1a := (hx5).1; have b1b := (hx5).2; omega)
    exact ret _ _ _ _ dX10_tries_63 (hT) hS
  · skip
    have f21 := i_nlt c21
    exact ret _ _ _ _ dX10_tries_24 (hT) hS
set_option maxHeartbeats 4000000 in
set_option maxRecDepth 100000 in
theorem t_X10_findsBest (l : Launch) {D : va_G} {c0 : Nat → ClassId} {Y : Nat → Option Nat} {ν : Nat → Nat} {H : Heap} (hT : TI D vwCl (tysOf c0) (RTg ν) Y H) {a0 : Nat} (ha0 : Y a0 = some 10) {x1 : Int32} (hx1 : iv x1 0 7) {x2 : Int32} (hx2 : iv x2 0 1) (hU : uq Y) : Met l yX10_findsBest (wz yX10_findsBest cX10_findsBest 8 none) { frames := 6, cells := 0, slots := 0, locals := 191 } (TP D vwCl (tysOf c0) H [.ref a0, .int x1, .int x2]) (TQv (fun H' => TI D vwCl (tysOf c0) (RTg ν) Y H') Y [10, 29, 43]) 0 0 (pW Y [10, 29, 43]) := by
  refine Met.ofW (cc := cX10_findsBest) (maxL := 8) (ret := none) (by decide) rfl ?_
  intro p e s m args below meth c s₁ B hml hv
  obtain ⟨rfl, rfl, hK⟩ := hv
  have hx := B.exec
  have hb := B.bytes
  have hr := B.returns
  have hts : ∀ w ∈ wq, w.before _ s = true := fun w h => atoms_spec (ws := wz yX10_findsBest cX10_findsBest 8 none) B.pre w (List.mem_cons_of_mem _ h)
  have hown : s.vm.findClass RX10 = some m.cls := findClass_of_methodNamed B.named
  have hlocks := B.notSynchronized
  obtain ⟨R, hR⟩ : ∃ R : Room, R = ({ frames := 6, cells := 0, slots := 0, locals := 191 } : Room) := ⟨_, rfl⟩
  rw [show (headSpec (wz yX10_findsBest cX10_findsBest 8 none) { frames := 6, cells := 0, slots := 0, locals := 191 }).room = R from hR.symm]
  refine ti_mv hx hb hr hlocks (fun Q ret => ?_)
  have hl := lv_entry [.ref a0, .int x1, .int x2] (n := 8) (Nat.le_of_ble_eq_true rfl)
  rw [lg_entry_eq]
  generalize (lg_sl [.ref a0, .int x1, .int x2] ++ List.replicate (8 - (lg_sl [.ref a0, .int x1, .int x2]).length) Slot.unset).toArray = ls at hl ⊢
  have hl : lv_has ls 8 [(0, .ref a0), (1, .int x1), (2, .int x2)] := hl
  refine ti_gen (P := fun H => TI D vwCl (tysOf c0) (RTg ν) Y H) (Y := Y) (ws := [10, 29, 43]) hT (fun H locs hT hS => ?_)
  refine lv_aload_n hx hb dX10_findsBest_0 rfl (lv_at hl 0 rfl) ?_
  refine ti_getr hx hb hts inlX10 hown hK hT ha0 rfl rfl rfl 24 (by decide) (hts _ kw_142) (fun _ h9 => h9) rfl dX10_findsBest_1 (fun v1 hv1 hm1 => ?_)
  refine lv_iconst (v := 0) hx hb dX10_findsBest_4 (by decide) ?_
  refine lv_ldcw (v := (-2000000000)) hx hb hown (hts _ kw_960) dX10_findsBest_5 ?_
  refine ti_iast hx hb (aT0 hK) hT hS hv1 rfl rfl (iv_c (x := (0 : Int32)) (k := 0) (by decide)) (by decide) (one_s 0 rfl rfl (by decide) (by decide)) (iv_c (x := (-2000000000 : Int32)) (k := (-2000000000)) (by decide)) (best_set (by decide) (by decide)) dX10_findsBest_8 (fun H locs hT hS oq8 he8 hk8 => ?_)
  refine lv_iload_n hx hb dX10_findsBest_9 rfl (lv_at hl 2 rfl) ?_
  have J11 : ∀ (n : Nat) (j11_L3 : Int32) (H : Heap) (locs : List Loc) (ls : Array Slot), (j11_L3.toInt - (-1)).toNat < n → iv j11_L3 (-1) 1 → TI D vwCl (tysOf c0) (RTg ν) Y H → va_S (pW Y [10, 29, 43]) s.heap H locs → lv_has ls 8 [(0, .ref a0), (1, .int x1), (2, .int x2), (3, .int j11_L3)] → W p l e R s m ([.ref a0, .int x1, .int x2] : List Value).toArray below meth c H locs 0 0 Q (F0 m 11 ls []) := by
    intro n
    induction n with
    | zero => intro j11_L3 H locs ls hms; exact absurd hms (Nat.not_lt_zero _)
    | succ n ih11 =>
      intro j11_L3 H locs ls hms11 hj11_L3 hT hS hl
      refine lv_iload_n hx hb dX10_findsBest_11 rfl (lv_at hl 3 rfl) ?_
      refine lv_if_lt (tgt := 110) hx hb dX10_findsBest_12 (by decide) (fun c12 => ?_) (fun c12 => ?_)
      · skip
        have kl0 : (0 : Int32).toInt = 0 := by decide
        have f12 := i_lt c12
        have hj11_L3_12l : iv j11_L3 (-1) (-1) := iv_ltl hj11_L3 (iv_c (x := (0 : Int32)) (k := 0) (by decide)) c12 (by decide)
        exact ret _ _ _ _ dX10_findsBest_110 (hT) hS
      · skip
        have kl0 : (0 : Int32).toInt = 0 := by decide
        have f12 := i_nlt c12
        have hj11_L3_12r : iv j11_L3 0 1 := iv_ler (iv_c (x := (0 : Int32)) (k := 0) (by decide)) hj11_L3 (Int32.not_lt.mp c12) (by decide)
        refine lv_aload_n hx hb dX10_findsBest_15 rfl (lv_at hl 0 rfl) ?_
        refine lv_iload_n hx hb dX10_findsBest_16 rfl (lv_at hl 1 rfl) ?_
        refine lv_iload_n hx hb dX10_findsBest_17 rfl (lv_at hl 3 rfl) ?_
        refine ti_calli (va_runV (As := [.int x1, .int j11_L3]) (rest := []) ⟨hx, hb, hml, hown, hts⟩ (t_X10_worked l hT ha0 (iv_w hx1 (by decide)) (iv_w hj11_L3_12r (by decide)) hU) (cwV 2 hts (good_V kw_783 kw_784 kw_785 kw_5 kw_786) rfl rfl rfl (by decide +kernel) ⟨by rw [hR]; decide, by rw [hR]; decide⟩) (ti_preV hK hT ha0 rfl rfl) rfl rfl hl.1 rfl (lv_room (Nat.le_of_ble_eq_true rfl)) dX10_findsBest_18 ⟨Nat.zero_le _, Nat.zero_le _⟩) hS (pW_sub rfl) (fun v18 H1 locs hB hS _ hk18 => ?_)
        obtain ⟨hH, hv18⟩ := hB
        rw [hH] at hS ⊢
        refine lv_istore (lv' := [(4, .int v18), (0, .ref a0), (1, .int x1), (2, .int x2), (3, .int j11_L3)]) hx hb dX10_findsBest_21 hl (by decide) rfl (fun ls hl => ?_)
        refine lv_iconst (v := 0) hx hb dX10_findsBest_23 (by decide) ?_
        have J26 : ∀ (n : Nat) (j26_L5 : Int32) (H : Heap) (locs : List Loc) (ls : Array Slot), (100001 - j26_L5.toInt).toNat < n → iv j26_L5 0 100001 → TI D vwCl (tysOf c0) (RTg ν) Y H → va_S (pW Y [10, 29, 43]) s.heap H locs → lv_has ls 8 [(0, .ref a0), (1, .int x1), (2, .int x2), (3, .int j11_L3), (4, .int v18), (5, .int j26_L5)] → W p l e R s m ([.ref a0, .int x1, .int x2] : List Value).toArray below meth c H locs 0 0 Q (F0 m 26 ls []) := by
          intro n
          induction n with
          | zero => intro j26_L5 H locs ls hms; exact absurd hms (Nat.not_lt_zero _)
          | succ n ih26 =>
            intro j26_L5 H locs ls hms26 hj26_L5 hT hS hl
            refine lv_iload hx hb dX10_findsBest_26 (lv_at hl 5 rfl) ?_
            refine lv_iload hx hb dX10_findsBest_28 (lv_at hl 4 rfl) ?_
            refine lv_icmp_gt (tgt := 104) hx hb dX10_findsBest_30 (by decide) (fun c30 => ?_) (fun c30 => ?_)
            · skip
              have f30 := i_lt c30
              obtain ⟨v104, e104⟩ : ∃ y : Int32, y = j11_L3 + (-1) := ⟨_, rfl⟩
              have hv104 : iv v104 (-1) 0 := by rw [e104]; exact iv_w (iv_add hj11_L3_12r (iv_c (x := (-1 : Int32)) (k := (-1)) (by decide)) (by decide)) (by decide)
              have s104 : v104.toInt = j11_L3.toInt + (-1) := by rw [e104, iv_addE hj11_L3_12r (iv_c (x := (-1 : Int32)) (k := (-1)) (by decide)) (by decide)]; rfl
              refine lv_iinc (v := v104) (lv' := [(3, .int v104), (0, .ref a0), (1, .int x1), (2, .int x2), (4, .int v18), (5, .int j26_L5)]) hx hb dX10_findsBest_104 hl (k := 3) rfl (by rw [e104]; rfl) (by decide) rfl (fun ls hl => ?_)
              refine lv_goto (tgt := 11) hx hb dX10_findsBest_107 (by decide) ?_
              exact ih11 v104 _ _ _ (ms_dn hms11 (by have := s104; omega) (iv_w (c := (-1)) (d := 0) hv104 (by decide)).1) (iv_w hv104 (by decide)) hT hS (lv_sub hl [1, 2, 3, 0] rfl)
            · skip
              have f30 := i_nlt c30
              have hj26_L5_30l : iv j26_L5 0 100000 := iv_lel hj26_L5 hv18 (Int32.not_lt.mp c30) (by decide)
              have hv18_30r : iv v18 0 100000 := iv_ler hj26_L5_30l hv18 (Int32.not_lt.mp c30) (by decide)
              refine lv_aload_n hx hb dX10_findsBest_33 rfl (lv_at hl 0 rfl) ?_
              refine lv_iload_n hx hb dX10_findsBest_34 rfl (lv_at hl 1 rfl) ?_
              refine lv_iload_n hx hb dX10_findsBest_35 rfl (lv_at hl 3 rfl) ?_
              refine lv_iload hx hb dX10_findsBest_36 (lv_at hl 5 rfl) ?_
              refine lv_iconst (v := 0) hx hb dX10_findsBest_38 (by decide) ?_
              refine lv_iconst (v := (-1)) hx hb dX10_findsBest_39 (by decide) ?_
              have klm1 : (-1 : Int32).toInt = (-1) := by decide
              refine ti_callv (va_runV (As := [.int x1, .int j11_L3, .int j26_L5, .int (0 : Int32), .int (-1 : Int32)]) (rest := []) ⟨hx, hb, hml, hown, hts⟩ (t_X10_tries l hT ha0 (iv_w hx1 (by decide)) (iv_w hj11_L3_12r (by decide)) (iv_w hj26_L5_30l (by decide)) (iv_w (iv_c (x := (0 : Int32)) (k := 0) (by decide)) (by decide)) (iv_w (iv_c (x := (-1 : Int32)) (k := (-1)) (by decide)) (by decide)) (fun h9 => by omega) hU) (cwV 5 hts (good_V kw_961 kw_962 kw_963 kw_5 kw_964) rfl rfl rfl (by decide +kernel) ⟨by rw [hR]; decide, by rw [hR]; decide⟩) (ti_preV hK hT ha0 rfl rfl) rfl rfl hl.1 rfl (lv_room (Nat.le_of_ble_eq_true rfl)) dX10_findsBest_40 ⟨Nat.zero_le _, Nat.zero_le _⟩) hS (pW_sub rfl) (fun H locs hB hS _ hk40 => ?_)
              have hT := hB
              refine lv_iconst (v := 1) hx hb dX10_findsBest_43 (by decide) ?_
              have J46 : ∀ (n : Nat) (j46_L6 : Int32) (H : Heap) (locs : List Loc) (ls : Array Slot), (100001 - j46_L6.toInt).toNat < n → iv j46_L6 1 100001 → TI D vwCl (tysOf c0) (RTg ν) Y H → va_S (pW Y [10, 29, 43]) s.heap H locs → lv_has ls 8 [(0, .ref a0), (1, .int x1), (2, .int x2), (3, .int j11_L3), (4, .int v18), (5, .int j26_L5), (6, .int j46_L6)] → W p l e R s m ([.ref a0, .int x1, .int x2] : List Value).toArray below meth c H locs 0 0 Q (F0 m 46 ls []) := by
                intro n
                induction n with
                | zero => intro j46_L6 H locs ls hms; exact absurd hms (Nat.not_lt_zero _)
                | succ n ih46 =>
                  intro j46_L6 H locs ls hms46 hj46_L6 hT hS hl
                  refine lv_iload hx hb dX10_findsBest_46 (lv_at hl 6 rfl) ?_
                  refine lv_iload hx hb dX10_findsBest_48 (lv_at hl 4 rfl) ?_
                  refine lv_iload hx hb dX10_findsBest_50 (lv_at hl 5 rfl) ?_
                  refine lv_isub hx hb dX10_findsBest_52 ?_
                  refine lv_topi (fun v52 e52 => ?_)
                  have hv52 : iv v52 (-100000) 100000 := by rw [e52]; exact iv_w (iv_sub hv18_30r hj26_L5_30l (by decide)) (by decide)
                  have s52 : v52.toInt = v18.toInt - j26_L5.toInt := by rw [e52]; exact iv_subE hv18_30r hj26_L5_30l (by decide)
                  refine lv_icmp_gt (tgt := 98) hx hb dX10_findsBest_53 (by decide) (fun c53 => ?_) (fun c53 => ?_)
                  · skip
                    have f53 := i_lt c53
                    obtain ⟨v98, e98⟩ : ∃ y : Int32, y = j26_L5 + 1 := ⟨_, rfl⟩
                    have hv98 : iv v98 1 100001 := by rw [e98]; exact iv_w (iv_add hj26_L5_30l (iv_c (x := (1 : Int32)) (k := 1) (by decide)) (by decide)) (by decide)
                    have s98 : v98.toInt = j26_L5.toInt + 1 := by rw [e98, iv_addE hj26_L5_30l (iv_c (x := (1 : Int32)) (k := 1) (by decide)) (by decide)]; rfl
                    refine lv_iinc (v := v98) (lv' := [(5, .int v98), (0, .ref a0), (1, .int x1), (2, .int x2), (3, .int j11_L3), (4, .int v18), (6, .int j46_L6)]) hx hb dX10_findsBest_98 hl (k := 5) rfl (by rw [e98]; rfl) (by decide) rfl (fun ls hl => ?_)
                    refine lv_goto (tgt := 26) hx hb dX10_findsBest_101 (by decide) ?_
                    exact ih26 v98 _ _ _ (ms_up hms26 (by have := s98; omega) (iv_w (c := 1) (d := 100001) hv98 (by decide)).2) (iv_w hv98 (by decide)) hT hS (lv_sub hl [1, 2, 3, 4, 5, 0] rfl)
                  · skip
                    have f53 := i_nlt c53
                    have hj46_L6_53l : iv j46_L6 1 100000 := iv_lel hj46_L6 hv52 (Int32.not_lt.mp c53) (by decide)
                    have hv52_53r : iv v52 1 100000 := iv_ler hj46_L6_53l hv52 (Int32.not_lt.mp c53) (by decide)
                    have hq53_49 : iv v18 1 100000 := by have b0a := (hv52_53r).1; have b0b := (hv52_53r).2; have b1a := (hv18_30r).1; have b1b := (hv18_30r).2; have b2a := (hj26_L5_30l).1; have b2b := (hj26_L5_30l).2; exact ⟨by omega, by omega⟩
                    have hq53_50 : iv j26_L5 0 99999 := by have b0a := (hv52_53r).1; have b0b := (hv52_53r).2; have b1a := (hq53_49).1; have b1b := (hq53_49).2; have b2a := (hj26_L5_30l).1; have b2b := (hj26_L5_30l).2; exact ⟨by omega, by omega⟩
                    refine lv_iconst (v := 0) hx hb dX10_findsBest_56 (by decide) ?_
                    have J59 : ∀ (n : Nat) (j59_L7 : Int32) (H : Heap) (locs : List Loc) (ls : Array Slot), (8 - j59_L7.toInt).toNat < n → iv j59_L7 0 8 → TI D vwCl (tysOf c0) (RTg ν) Y H → va_S (pW Y [10, 29, 43]) s.heap H locs → lv_has ls 8 [(0, .ref a0), (1, .int x1), (2, .int x2), (3, .int j11_L3), (4, .int v18), (5, .int j26_L5), (6, .int j46_L6), (7, .int j59_L7)] → W p l e R s m ([.ref a0, .int x1, .int x2] : List Value).toArray below meth c H locs 0 0 Q (F0 m 59 ls []) := by
                      intro n
                      induction n with
                      | zero => intro j59_L7 H locs ls hms; exact absurd hms (Nat.not_lt_zero _)
                      | succ n ih59 =>
                        intro j59_L7 H locs ls hms59 hj59_L7 hT hS hl
                        refine lv_iload hx hb dX10_findsBest_59 (lv_at hl 7 rfl) ?_
                        refine lv_aload_n hx hb dX10_findsBest_61 rfl (lv_at hl 0 rfl) ?_
                        refine ti_calli (va_runV (As := []) (rest := [.int j59_L7]) ⟨hx, hb, hml, hown, hts⟩ (t_X10_people l hT ha0 hU) (cwV 0 hts (good_V kw_605 kw_606 kw_607 kw_5 kw_608) rfl rfl rfl (by decide +kernel) ⟨by rw [hR]; decide, by rw [hR]; decide⟩) (ti_preV hK hT ha0 rfl rfl) rfl rfl hl.1 rfl (lv_room (Nat.le_of_ble_eq_true rfl)) dX10_findsBest_62 ⟨Nat.zero_le _, Nat.zero_le _⟩) hS (pW_sub rfl) (fun v62 H1 locs hB hS _ hk62 => ?_)
                        obtain ⟨hH, hv62, hp62⟩ := hB
                        rw [hH] at hS ⊢
                        refine lv_icmp_ge (tgt := 92) hx hb dX10_findsBest_65 (by decide) (fun c65 => ?_) (fun c65 => ?_)
                        · skip
                          have f65 := i_le c65
                          obtain ⟨v92, e92⟩ : ∃ y : Int32, y = j46_L6 + 1 := ⟨_, rfl⟩
                          have hv92 : iv v92 2 100001 := by rw [e92]; exact iv_w (iv_add hj46_L6_53l (iv_c (x := (1 : Int32)) (k := 1) (by decide)) (by decide)) (by decide)
                          have s92 : v92.toInt = j46_L6.toInt + 1 := by rw [e92, iv_addE hj46_L6_53l (iv_c (x := (1 : Int32)) (k := 1) (by decide)) (by decide)]; rfl
                          refine lv_iinc (v := v92) (lv' := [(6, .int v92), (0, .ref a0), (1, .int x1), (2, .int x2), (3, .int j11_L3), (4, .int v18), (5, .int j26_L5), (7, .int j59_L7)]) hx hb dX10_findsBest_92 hl (k := 6) rfl (by rw [e92]; rfl) (by decide) rfl (fun ls hl => ?_)
                          refine lv_goto (tgt := 46) hx hb dX10_findsBest_95 (by decide) ?_
                          exact ih46 v92 _ _ _ (ms_up hms46 (by have := s92; omega) (iv_w (c := 2) (d := 100001) hv92 (by decide)).2) (iv_w hv92 (by decide)) hT hS (lv_sub hl [1, 2, 3, 4, 5, 6, 0] rfl)
                        · skip
                          have f65 := i_nle c65
                          have hj59_L7_65l : iv j59_L7 0 7 := iv_ltl hj59_L7 hv62 (Int32.not_le.mp c65) (by decide)
                          have hv62_65r : iv v62 1 8 := iv_ltr hj59_L7_65l hv62 (Int32.not_le.mp c65) (by decide)
                          refine lv_iload hx hb dX10_findsBest_68 (lv_at hl 7 rfl) ?_
                          refine lv_iload_n hx hb dX10_findsBest_70 rfl (lv_at hl 1 rfl) ?_
                          have J86 : ∀  (H : Heap) (locs : List Loc) (ls : Array Slot), TI D vwCl (tysOf c0) (RTg ν) Y H → va_S (pW Y [10, 29, 43]) s.heap H locs → lv_has ls 8 [(0, .ref a0), (1, .int x1), (2, .int x2), (3, .int j11_L3), (4, .int v18), (5, .int j26_L5), (6, .int j46_L6), (7, .int j59_L7)] → W p l e R s m ([.ref a0, .int x1, .int x2] : List Value).toArray below meth c H locs 0 0 Q (F0 m 86 ls []) := by
                            intro  H locs ls  hT hS hl
                            obtain ⟨v86, e86⟩ : ∃ y : Int32, y = j59_L7 + 1 := ⟨_, rfl⟩
                            have hv86 : iv v86 1 8 := by rw [e86]; exact iv_w (iv_add hj59_L7_65l (iv_c (x := (1 : Int32)) (k := 1) (by decide)) (by decide)) (by decide)
                            have s86 : v86.toInt = j59_L7.toInt + 1 := by rw [e86, iv_addE hj59_L7_65l (iv_c (x := (1 : Int32)) (k := 1) (by decide)) (by decide)]; rfl
                            refine lv_iinc (v := v86) (lv' := [(7, .int v86), (0, .ref a0), (1, .int x1), (2, .int x2), (3, .int j11_L3), (4, .int v18), (5, .int j26_L5), (6, .int j46_L6)]) hx hb dX10_findsBest_86 hl (k := 7) rfl (by rw [e86]; rfl) (by decide) rfl (fun ls hl => ?_)
                            refine lv_goto (tgt := 59) hx hb dX10_findsBest_89 (by decide) ?_
                            exact ih59 v86 _ _ _ (ms_up hms59 (by have := s86; omega) (iv_w (c := 1) (d := 8) hv86 (by decide)).2) (iv_w hv86 (by decide)) hT hS (lv_sub hl [1, 2, 3, 4, 5, 6, 7, 0] rfl)
                          refine lv_icmp_eq (tgt := 86) hx hb dX10_findsBest_71 (by decide) (fun c71 => ?_) (fun c71 => ?_)
                          · skip
                            have f71 := i_eq c71
                            exact J86  _ _ _   hT hS (lv_sub hl [0, 1, 2, 3, 4, 5, 6, 7] rfl)
                          · skip
                            have f71 := i_ne c71
                            refine lv_aload_n hx hb dX10_findsBest_74 rfl (lv_at hl 0 rfl) ?_
                            refine lv_iload_n hx hb dX10_findsBest_75 rfl (lv_at hl 1 rfl) ?_
                            refine lv_iload_n hx hb dX10_findsBest_76 rfl (lv_at hl 3 rfl) ?_
                            refine lv_iload hx hb dX10_findsBest_77 (lv_at hl 5 rfl) ?_
                            refine lv_iload hx hb dX10_findsBest_79 (lv_at hl 6 rfl) ?_
                            refine lv_iload hx hb dX10_findsBest_81 (lv_at hl 7 rfl) ?_
                            refine ti_callv (va_runV (As := [.int x1, .int j11_L3, .int j26_L5, .int j46_L6, .int j59_L7]) (rest := []) ⟨hx, hb, hml, hown, hts⟩ (t_X10_tries l hT ha0 (iv_w hx1 (by decide)) (iv_w hj11_L3_12r (by decide)) (iv_w hq53_50 (by decide)) (iv_w hj46_L6_53l (by decide)) (iv_w hj59_L7_65l (by decide)) (fun h9 => by have b0a := (hj46_L6_53l).1; have b0b := (hj46_L6_53l).2; have b1a := (hj59_L7_65l).1; have b1b := (hj59_L7_65l).2; omega) hU) (cwV 5 hts (good_V kw_961 kw_962 kw_963 kw_5 kw_964) rfl rfl rfl (by decide +kernel) ⟨by rw [hR]; decide, by rw [hR]; decide⟩) (ti_preV hK hT ha0 rfl rfl) rfl rfl hl.1 rfl (lv_room (Nat.le_of_ble_eq_true rfl)) dX10_findsBest_83 ⟨Nat.zero_le _, Nat.zero_le _⟩) hS (pW_sub rfl) (fun H locs hB hS _ hk83 => ?_)
                            have hT := hB
                            exact J86  _ _ _   hT hS (lv_sub hl [0, 1, 2, 3, 4, 5, 6, 7] rfl)
                    refine lv_istore (lv' := [(7, .int (0 : Int32)), (0, .ref a0), (1, .int x1), (2, .int x2), (3, .int j11_L3), (4, .int v18), (5, .int j26_L5), (6, .int j46_L6)]) hx hb dX10_findsBest_57 hl (by decide) rfl (fun ls hl => ?_)
                    exact J59 _ (0 : Int32) _ _ _ (Nat.lt_succ_self _) (iv_w (iv_c (x := (0 : Int32)) (k := 0) (by decide)) (by decide)) hT hS (lv_sub hl [1, 2, 3, 4, 5, 6, 7, 0] rfl)
              refine lv_istore (lv' := [(6, .int (1 : Int32)), (0, .ref a0), (1, .int x1), (2, .int x2), (3, .int j11_L3), (4, .int v18), (5, .int j26_L5)]) hx hb dX10_findsBest_44 hl (by decide) rfl (fun ls hl => ?_)
              exact J46 _ (1 : Int32) _ _ _ (Nat.lt_succ_self _) (iv_w (iv_c (x := (1 : Int32)) (k := 1) (by decide)) (by decide)) hT hS (lv_sub hl [1, 2, 3, 4, 5, 6, 0] rfl)
        refine lv_istore (lv' := [(5, .int (0 : Int32)), (4, .int v18), (0, .ref a0), (1, .int x1), (2, .int x2), (3, .int j11_L3)]) hx hb dX10_findsBest_24 hl (by decide) rfl (fun ls hl => ?_)
        exact J26 _ (0 : Int32) _ _ _ (Nat.lt_succ_self _) (iv_w (iv_c (x := (0 : Int32)) (k := 0) (by decide)) (by decide)) hT hS (lv_sub hl [2, 3, 4, 5, 1, 0] rfl)
  refine lv_istore_n (lv' := [(3, .int x2), (0, .ref a0), (1, .int x1), (2, .int x2)]) hx hb dX10_findsBest_10 rfl hl (by decide) rfl (fun ls hl => ?_)
  exact J11 _ x2 _ _ _ (Nat.lt_succ_self _) (iv_w hx2 (by decide)) hT hS (lv_sub hl [1, 2, 3, 0] rfl)
set_option maxHeartbeats 4000000 in
set_option maxRecDepth 100000 in
theorem t_X10_best (l : Launch) {D : va_G} {c0 : Nat → ClassId} {Y : Nat → Option Nat} {ν : Nat → Nat} {H : Heap} (hT : TI D vwCl (tysOf c0) (RTg ν) Y H) {a0 : Nat} (ha0 : Y a0 = some 10) {x1 : Int32} (hx1 : iv x1 (-2147483648) 2147483647) {x2 : Int32} (hx2 : iv x2 (-2147483648) 2147483647) (hU : uq Y) : Met l yX10_best (wz yX10_best cX10_best 3 (some .int)) { frames := 7, cells := 0, slots := 0, locals := 218 } (TP D vwCl (tysOf c0) H [.ref a0, .int x1, .int x2]) (TQi (fun x H' => TI D vwCl (tysOf c0) (RTg ν) Y H') Y [10, 29, 43]) 0 0 (pW Y [10, 29, 43]) := by
  refine Met.ofW (cc := cX10_best) (maxL := 3) (ret := (some .int)) (by decide) rfl ?_
  intro p e s m args below meth c s₁ B hml hv
  obtain ⟨rfl, rfl, hK⟩ := hv
  have hx := B.exec
  have hb := B.bytes
  have hr := B.returns
  have hts : ∀ w ∈ wq, w.before _ s = true := fun w h => atoms_spec (ws := wz yX10_best cX10_best 3 (some .int)) B.pre w (List.mem_cons_of_mem _ h)
  have hown : s.vm.findClass RX10 = some m.cls := findClass_of_methodNamed B.named
  have hlocks := B.notSynchronized
  obtain ⟨R, hR⟩ : ∃ R : Room, R = ({ frames := 7, cells := 0, slots := 0, locals := 218 } : Room) := ⟨_, rfl⟩
  rw [show (headSpec (wz yX10_best cX10_best 3 (some .int)) { frames := 7, cells := 0, slots := 0, locals := 218 }).room = R from hR.symm]
  refine ti_mi hx hb hr hlocks (fun Q ret => ?_)
  have hl := lv_entry [.ref a0, .int x1, .int x2] (n := 3) (Nat.le_of_ble_eq_true rfl)
  rw [lg_entry_eq]
  generalize (lg_sl [.ref a0, .int x1, .int x2] ++ List.replicate (3 - (lg_sl [.ref a0, .int x1, .int x2]).length) Slot.unset).toArray = ls at hl ⊢
  have hl : lv_has ls 3 [(0, .ref a0), (1, .int x1), (2, .int x2)] := hl
  refine ti_gen (P := fun H => TI D vwCl (tysOf c0) (RTg ν) Y H) (Y := Y) (ws := [10, 29, 43]) hT (fun H locs hT hS => ?_)
  refine lv_iload_n hx hb dX10_best_0 rfl (lv_at hl 2 rfl) ?_
  refine lv_i2l hx hb dX10_best_1 rfl ?_
  refine lv_topl (fun v1 e1 => ?_)
  have hv1 : jv v1 (-2147483648) 2147483647 := by rw [e1]; exact jv_i hx2
  have t1 : v1.toInt = x2.toInt := by rw [e1]; exact jv_e _
  refine lv_lconst (v := 0) hx hb dX10_best_2 (by decide) ?_
  have kj0 : (0 : Int64).toInt = 0 := by decide
  refine lv_ldc2 (v := 4) hx hb hown (hts _ kw_1027) dX10_best_3 ?_
  have kj4 : (4 : Int64).toInt = 4 := by decide
  refine ti_calli (va_runS (As := [.long v1, .long (0 : Int64), .long (4 : Int64)]) (rest := []) ⟨hx, hb, hml, hown, hts⟩ (t_X10_in l hT (jv_w hv1 (by decide)) (jv_w (jv_c (x := (0 : Int64)) (k := 0) (by decide)) (by decide)) (jv_w (jv_c (x := (4 : Int64)) (k := 4) (by decide)) (by decide))) (cwS 3 hts (good_S kw_181 kw_182 kw_5 kw_183) rfl rfl rfl (by decide +kernel) ⟨by rw [hR]; decide, by rw [hR]; decide⟩) (ti_preS hK) rfl rfl hl.1 rfl (lv_room (Nat.le_of_ble_eq_true rfl)) dX10_best_6 ⟨Nat.zero_le _, Nat.zero_le _⟩) hS (pW_sub rfl) (fun v6 H1 locs hB hS _ hk6 => ?_)
  obtain ⟨hH, hv6, hp6⟩ := hB
  rw [hH] at hS ⊢
  refine lv_if_ne (tgt := 15) hx hb dX10_best_9 (by decide) (fun c9 => ?_) (fun c9 => ?_)
  · skip
    have kl0 : (0 : Int32).toInt = 0 := by decide
    have f9 := i_ne c9
    have hv6_9l : iv v6 1 1 := iv_nel hv6 (iv_c (x := (0 : Int32)) (k := 0) (by decide)) c9 (by decide)
    have hv1_9p : jv v1 0 4 := by have b0a := (hv1).1; have b0b := (hv1).2; have b1a := ((jv_c (x := (0 : Int64)) (k := 0) (by decide))).1; have b1b := ((jv_c (x := (0 : Int64)) (k := 0) (by decide))).2; have b2a := ((jv_c (x := (4 : Int64)) (k := 4) (by decide))).1; have b2b := ((jv_c (x := (4 : Int64)) (k := 4) (by decide))).2; exact ⟨by omega, by omega⟩
    have hx2_9p : iv x2 0 4 := by have := t1; have b0a := (hv1_9p).1; have b0b := (hv1_9p).2; have b1a := (hx2).1; have b1b := (hx2).2; exact ⟨by omega, by omega⟩
    refine lv_aload_n hx hb dX10_best_15 rfl (lv_at hl 0 rfl) ?_
    refine lv_iload_n hx hb dX10_best_16 rfl (lv_at hl 1 rfl) ?_
    refine ti_calli (va_runV (As := [.int x1]) (rest := []) ⟨hx, hb, hml, hown, hts⟩ (t_X10_isPerson l hT ha0 (iv_w hx1 (by decide)) hU) (cwV 1 hts (good_V kw_486 kw_487 kw_488 kw_5 kw_489) rfl rfl rfl (by decide +kernel) ⟨by rw [hR]; decide, by rw [hR]; decide⟩) (ti_preV hK hT ha0 rfl rfl) rfl rfl hl.1 rfl (lv_room (Nat.le_of_ble_eq_true rfl)) dX10_best_17 ⟨Nat.zero_le _, Nat.zero_le _⟩) hS (pW_sub rfl) (fun v17 H1 locs hB hS _ hk17 => ?_)
    obtain ⟨hH, hv17, hp17⟩ := hB
    rw [hH] at hS ⊢
    refine lv_if_ne (tgt := 36) hx hb dX10_best_20 (by decide) (fun c20 => ?_) (fun c20 => ?_)
    · skip
      have f20 := i_ne c20
      have hv17_20l : iv v17 1 1 := iv_nel hv17 (iv_c (x := (0 : Int32)) (k := 0) (by decide)) c20 (by decide)
      have hx1_20p : iv x1 0 7 := by have b0a := (hx1).1; have b0b := (hx1).2; exact ⟨by omega, by omega⟩
      refine lv_aload_n hx hb dX10_best_36 rfl (lv_at hl 0 rfl) ?_
      refine lv_iload_n hx hb dX10_best_37 rfl (lv_at hl 1 rfl) ?_
      refine ti_callv (va_runV (As := [.int x1]) (rest := []) ⟨hx, hb, hml, hown, hts⟩ (t_X10_guesses l hT ha0 (iv_w hx1_20p (by decide)) hU) (cwV 1 hts (good_V kw_952 kw_953 kw_954 kw_5 kw_955) rfl rfl rfl (by decide +kernel) ⟨by rw [hR]; decide, by rw [hR]; decide⟩) (ti_preV hK hT ha0 rfl rfl) rfl rfl hl.1 rfl (lv_room (Nat.le_of_ble_eq_true rfl)) dX10_best_38 ⟨Nat.zero_le _, Nat.zero_le _⟩) hS (pW_sub rfl) (fun H locs hB hS _ hk38 => ?_)
      have hT := hB
      refine lv_aload_n hx hb dX10_best_41 rfl (lv_at hl 0 rfl) ?_
      refine lv_iload_n hx hb dX10_best_42 rfl (lv_at hl 1 rfl) ?_
      refine lv_iconst (v := 1) hx hb dX10_best_43 (by decide) ?_
      refine ti_callv (va_runV (As := [.int x1, .int (1 : Int32)]) (rest := []) ⟨hx, hb, hml, hown, hts⟩ (t_X10_findsBest l hT ha0 (iv_w hx1_20p (by decide)) (iv_w (iv_c (x := (1 : Int32)) (k := 1) (by decide)) (by decide)) hU) (cwV 2 hts (good_V kw_956 kw_957 kw_958 kw_5 kw_959) rfl rfl rfl (by decide +kernel) ⟨by rw [hR]; decide, by rw [hR]; decide⟩) (ti_preV hK hT ha0 rfl rfl) rfl rfl hl.1 rfl (lv_room (Nat.le_of_ble_eq_true rfl)) dX10_best_44 ⟨Nat.zero_le _, Nat.zero_le _⟩) hS (pW_sub rfl) (fun H locs hB hS _ hk44 => ?_)
      have hT := hB
      refine lv_aload_n hx hb dX10_best_47 rfl (lv_at hl 0 rfl) ?_
      refine ti_getr hx hb hts inlX10 hown hK hT ha0 rfl rfl rfl 24 (by decide) (hts _ kw_142) (fun _ h9 => h9) rfl dX10_best_48 (fun v48 hv48 hm48 => ?_)
      refine lv_iload_n hx hb dX10_best_51 rfl (lv_at hl 2 rfl) ?_
      refine ti_iald (lo := (-2147483648)) (hi := 2147483647) hx hb (aT0 hK) hT hv48 rfl hx2_9p (by decide) (rng_ld 0 4 (by decide +kernel)) dX10_best_52 (fun v52 hv52 hm52 => ?_)
      exact ret _ _ _ _ _ dX10_best_53 (hT) hS
    · skip
      have f20 := i_eq c20
      have hv17_20l : iv v17 0 0 := iv_eql hv17 (iv_c (x := (0 : Int32)) (k := 0) (by decide)) c20 (by decide)
      refine lv_iload_n hx hb dX10_best_23 rfl (lv_at hl 2 rfl) ?_
      refine lv_if_ne (tgt := 33) hx hb dX10_best_24 (by decide) (fun c24 => ?_) (fun c24 => ?_)
      · skip
        have f24 := i_ne c24
        have hx2_24l : iv x2 1 4 := iv_nel hx2_9p (iv_c (x := (0 : Int32)) (k := 0) (by decide)) c24 (by decide)
        refine lv_bipush (v := (-2)) hx hb dX10_best_33 (by decide) ?_
        exact ret _ _ _ _ _ dX10_best_35 (hT) hS
      · skip
        have f24 := i_eq c24
        have hx2_24l : iv x2 0 0 := iv_eql hx2_9p (iv_c (x := (0 : Int32)) (k := 0) (by decide)) c24 (by decide)
        refine lv_ldcw (v := (-2000000000)) hx hb hown (hts _ kw_960) dX10_best_27 ?_
        refine lv_goto (tgt := 35) hx hb dX10_best_30 (by decide) ?_
        exact ret _ _ _ _ _ dX10_best_35 (hT) hS
  · skip
    have kl0 : (0 : Int32).toInt = 0 := by decide
    have f9 := i_eq c9
    have hv6_9l : iv v6 0 0 := iv_eql hv6 (iv_c (x := (0 : Int32)) (k := 0) (by decide)) c9 (by decide)
    refine lv_bipush (v := (-2)) hx hb dX10_best_12 (by decide) ?_
    exact ret _ _ _ _ _ dX10_best_14 (hT) hS
set_option maxHeartbeats 4000000 in
set_option maxRecDepth 100000 in
theorem t_X10_losesBy (l : Launch) {D : va_G} {c0 : Nat → ClassId} {Y : Nat → Option Nat} {ν : Nat → Nat} {H : Heap} (hT : TI D vwCl (tysOf c0) (RTg ν) Y H) {a0 : Nat} (ha0 : Y a0 = some 10) {x1 : Int32} (hx1 : iv x1 0 7) {x2 : Int32} (hx2 : iv x2 0 7) {x3 : Int32} (hx3 : iv x3 0 100000) {x4 : Int32} (hx4 : iv x4 0 7) (hν3 : ν 3 = 0) (hν5 : ν 5 = 0) (hU : uq Y) : Met l yX10_losesBy (wz yX10_losesBy cX10_losesBy 6 (some .boolean)) { frames := 6, cells := 0, slots := 0, locals := 146 } (TP D vwCl (tysOf c0) H [.ref a0, .int x1, .int x2, .int x3, .int x4]) (TQi (fun x H' => TI D vwCl (tysOf c0) (RTg ν) Y H' ∧ iv x 0 1) Y [10, 30, 41, 42]) 0 0 (pW Y [10, 30, 41, 42]) := by
  refine Met.ofW (cc := cX10_losesBy) (maxL := 6) (ret := (some .boolean)) (by decide) rfl ?_
  intro p e s m args below meth c s₁ B hml hv
  obtain ⟨rfl, rfl, hK⟩ := hv
  have hx := B.exec
  have hb := B.bytes
  have hr := B.returns
  have hts : ∀ w ∈ wq, w.before _ s = true := fun w h => atoms_spec (ws := wz yX10_losesBy cX10_losesBy 6 (some .boolean)) B.pre w (List.mem_cons_of_mem _ h)
  have hown : s.vm.findClass RX10 = some m.cls := findClass_of_methodNamed B.named
  have hlocks := B.notSynchronized
  obtain ⟨R, hR⟩ : ∃ R : Room, R = ({ frames := 6, cells := 0, slots := 0, locals := 146 } : Room) := ⟨_, rfl⟩
  rw [show (headSpec (wz yX10_losesBy cX10_losesBy 6 (some .boolean)) { frames := 6, cells := 0, slots := 0, locals := 146 }).room = R from hR.symm]
  refine ti_mz hx hb hr hlocks (fun Q ret => ?_)
  have hl := lv_entry [.ref a0, .int x1, .int x2, .int x3, .int x4] (n := 6) (Nat.le_of_ble_eq_true rfl)
  rw [lg_entry_eq]
  generalize (lg_sl [.ref a0, .int x1, .int x2, .int x3, .int x4] ++ List.replicate (6 - (lg_sl [.ref a0, .int x1, .int x2, .int x3, .int x4]).length) Slot.unset).toArray = ls at hl ⊢
  have hl : lv_has ls 6 [(0, .ref a0), (1, .int x1), (2, .int x2), (3, .int x3), (4, .int x4)] := hl
  refine ti_gen (P := fun H => TI D vwCl (tysOf c0) (RTg ν) Y H) (Y := Y) (ws := [10, 30, 41, 42]) hT (fun H locs hT hS => ?_)
  refine lv_aload_n hx hb dX10_losesBy_0 rfl (lv_at hl 0 rfl) ?_
  refine ti_callv (va_runV (As := []) (rest := []) ⟨hx, hb, hml, hown, hts⟩ (t_X10_thinks l hT ha0 hν3 hν5 hU) (cwV 0 hts (good_V kw_819 kw_820 kw_821 kw_5 kw_822) rfl rfl rfl (by decide +kernel) ⟨by rw [hR]; decide, by rw [hR]; decide⟩) (ti_preV hK hT ha0 rfl rfl) rfl rfl hl.1 rfl (lv_room (Nat.le_of_ble_eq_true rfl)) dX10_losesBy_1 ⟨Nat.zero_le _, Nat.zero_le _⟩) hS (pW_sub rfl) (fun H locs hB hS _ hk1 => ?_)
  have hT := hB
  refine lv_aload_n hx hb dX10_losesBy_4 rfl (lv_at hl 0 rfl) ?_
  refine lv_iload_n hx hb dX10_losesBy_5 rfl (lv_at hl 1 rfl) ?_
  refine lv_aload_n hx hb dX10_losesBy_6 rfl (lv_at hl 0 rfl) ?_
  refine lv_iload_n hx hb dX10_losesBy_7 rfl (lv_at hl 1 rfl) ?_
  refine lv_iconst (v := 0) hx hb dX10_losesBy_8 (by decide) ?_
  refine ti_calli (va_runV (As := [.int x1, .int (0 : Int32)]) (rest := [.int x1, .ref a0]) ⟨hx, hb, hml, hown, hts⟩ (t_X10_of l hT ha0 (iv_w hx1 (by decide)) (iv_w (iv_c (x := (0 : Int32)) (k := 0) (by decide)) (by decide)) hU) (cwV 2 hts (good_V kw_490 kw_491 kw_492 kw_5 kw_493) rfl rfl rfl (by decide +kernel) ⟨by rw [hR]; decide, by rw [hR]; decide⟩) (ti_preV hK hT ha0 rfl rfl) rfl rfl hl.1 rfl (lv_room (Nat.le_of_ble_eq_true rfl)) dX10_losesBy_9 ⟨Nat.zero_le _, Nat.zero_le _⟩) hS (pW_sub rfl) (fun v9 H1 locs hB hS _ hk9 => ?_)
  obtain ⟨hH, hp9⟩ := hB
  rw [hH] at hS ⊢
  have kl0 : (0 : Int32).toInt = 0 := by decide
  have hf9 : iv v9 (-2147483648) 100000 := by have b0a := ((iv_top v9)).1; have b0b := ((iv_top v9)).2; exact ⟨by omega, by omega⟩
  refine lv_iload_n hx hb dX10_losesBy_12 rfl (lv_at hl 3 rfl) ?_
  refine lv_isub hx hb dX10_losesBy_13 ?_
  refine lv_topi (fun v13 e13 => ?_)
  have hv13 : iv v13 (-2147483648) 2147483647 := iv_top _
  refine ti_callv (va_runV (As := [.int x1, .int v13]) (rest := []) ⟨hx, hb, hml, hown, hts⟩ (t_X10_has l hT ha0 (iv_w hx1 (by decide)) (iv_w hv13 (by decide)) hU) (cwV 2 hts (good_V kw_507 kw_508 kw_509 kw_5 kw_510) rfl rfl rfl (by decide +kernel) ⟨by rw [hR]; decide, by rw [hR]; decide⟩) (ti_preV hK hT ha0 rfl rfl) rfl rfl hl.1 rfl (lv_room (Nat.le_of_ble_eq_true rfl)) dX10_losesBy_14 ⟨Nat.zero_le _, Nat.zero_le _⟩) hS (pW_sub rfl) (fun H locs hB hS _ hk14 => ?_)
  obtain ⟨hT, hp14⟩ := hB
  refine lv_aload_n hx hb dX10_losesBy_17 rfl (lv_at hl 0 rfl) ?_
  refine lv_iload_n hx hb dX10_losesBy_18 rfl (lv_at hl 2 rfl) ?_
  refine lv_aload_n hx hb dX10_losesBy_19 rfl (lv_at hl 0 rfl) ?_
  refine lv_iload_n hx hb dX10_losesBy_20 rfl (lv_at hl 2 rfl) ?_
  refine lv_iconst (v := 0) hx hb dX10_losesBy_21 (by decide) ?_
  refine ti_calli (va_runV (As := [.int x2, .int (0 : Int32)]) (rest := [.int x2, .ref a0]) ⟨hx, hb, hml, hown, hts⟩ (t_X10_of l hT ha0 (iv_w hx2 (by decide)) (iv_w (iv_c (x := (0 : Int32)) (k := 0) (by decide)) (by decide)) hU) (cwV 2 hts (good_V kw_490 kw_491 kw_492 kw_5 kw_493) rfl rfl rfl (by decide +kernel) ⟨by rw [hR]; decide, by rw [hR]; decide⟩) (ti_preV hK hT ha0 rfl rfl) rfl rfl hl.1 rfl (lv_room (Nat.le_of_ble_eq_true rfl)) dX10_losesBy_22 ⟨Nat.zero_le _, Nat.zero_le _⟩) hS (pW_sub rfl) (fun v22 H1 locs hB hS _ hk22 => ?_)
  obtain ⟨hH, hp22⟩ := hB
  rw [hH] at hS ⊢
  have hf22 : iv v22 (-2147483648) 100000 := by have b0a := ((iv_top v22)).1; have b0b := ((iv_top v22)).2; exact ⟨by omega, by omega⟩
  refine lv_iload_n hx hb dX10_losesBy_25 rfl (lv_at hl 3 rfl) ?_
  refine lv_iadd hx hb dX10_losesBy_26 ?_
  refine lv_topi (fun v26 e26 => ?_)
  have hv26 : iv v26 (-2147483648) 200000 := by rw [e26]; exact iv_w (iv_add hf22 hx3 (by decide)) (by decide)
  have s26 : v26.toInt = v22.toInt + x3.toInt := by rw [e26]; exact iv_addE hf22 hx3 (by decide)
  refine ti_callv (va_runV (As := [.int x2, .int v26]) (rest := []) ⟨hx, hb, hml, hown, hts⟩ (t_X10_has l hT ha0 (iv_w hx2 (by decide)) (iv_w hv26 (by decide)) hU) (cwV 2 hts (good_V kw_507 kw_508 kw_509 kw_5 kw_510) rfl rfl rfl (by decide +kernel) ⟨by rw [hR]; decide, by rw [hR]; decide⟩) (ti_preV hK hT ha0 rfl rfl) rfl rfl hl.1 rfl (lv_room (Nat.le_of_ble_eq_true rfl)) dX10_losesBy_27 ⟨Nat.zero_le _, Nat.zero_le _⟩) hS (pW_sub rfl) (fun H locs hB hS _ hk27 => ?_)
  obtain ⟨hT, hp27⟩ := hB
  refine lv_aload_n hx hb dX10_losesBy_30 rfl (lv_at hl 0 rfl) ?_
  refine lv_iload hx hb dX10_losesBy_31 (lv_at hl 4 rfl) ?_
  refine ti_calli (va_runV (As := [.int x4]) (rest := []) ⟨hx, hb, hml, hown, hts⟩ (t_X10_lossOf l hT ha0 (iv_w hx4 (by decide)) hU) (cwV 1 hts (good_V kw_645 kw_646 kw_647 kw_5 kw_648) rfl rfl rfl (by decide +kernel) ⟨by rw [hR]; decide, by rw [hR]; decide⟩) (ti_preV hK hT ha0 rfl rfl) rfl rfl hl.1 rfl (lv_room (Nat.le_of_ble_eq_true rfl)) dX10_losesBy_33 ⟨Nat.zero_le _, Nat.zero_le _⟩) hS (pW_sub rfl) (fun v33 H1 locs hB hS _ hk33 => ?_)
  obtain ⟨hH, hv33⟩ := hB
  rw [hH] at hS ⊢
  have J44 : ∀ (j44_S0 : Int32) (H : Heap) (locs : List Loc) (ls : Array Slot), iv j44_S0 0 1 → TI D vwCl (tysOf c0) (RTg (νt ν)) Y H → va_S (pW Y [10, 30, 41, 42]) s.heap H locs → lv_has ls 6 [(0, .ref a0), (1, .int x1), (2, .int x2), (3, .int x3), (4, .int x4)] → W p l e R s m ([.ref a0, .int x1, .int x2, .int x3, .int x4] : List Value).toArray below meth c H locs 0 0 Q (F0 m 44 ls [.int j44_S0]) := by
    intro j44_S0 H locs ls hj44_S0 hT hS hl
    refine lv_istore (lv' := [(5, .int j44_S0), (0, .ref a0), (1, .int x1), (2, .int x2), (3, .int x3), (4, .int x4)]) hx hb dX10_losesBy_44 hl (by decide) rfl (fun ls hl => ?_)
    refine lv_aload_n hx hb dX10_losesBy_46 rfl (lv_at hl 1 rfl) ?_
    refine ti_callv (va_runV (As := []) (rest := []) ⟨hx, hb, hml, hown, hts⟩ (t_X10_wakes l hT ha0 rfl rfl hU) (cwV 0 hts (good_V kw_824 kw_825 kw_826 kw_5 kw_827) rfl rfl rfl (by decide +kernel) ⟨by rw [hR]; decide, by rw [hR]; decide⟩) (ti_preV hK hT ha0 rfl rfl) rfl rfl hl.1 rfl (lv_room (Nat.le_of_ble_eq_true rfl)) dX10_losesBy_47 ⟨Nat.zero_le _, Nat.zero_le _⟩) hS (pW_sub rfl) (fun H locs hB hS _ hk47 => ?_)
    have hT := hB
    rw [nu_back hν3 hν5] at hT
    refine lv_iload hx hb dX10_losesBy_50 (lv_at hl 0 rfl) ?_
    exact ret _ _ _ _ _ dX10_losesBy_52 (iv_w hj44_S0 (by decide)) (⟨hT, iv_w hj44_S0 (by decide)⟩) hS
  refine lv_if_le (tgt := 43) hx hb dX10_losesBy_36 (by decide) (fun c36 => ?_) (fun c36 => ?_)
  · skip
    have f36 := i_le c36
    have hv33_36l : iv v33 0 0 := iv_lel hv33 (iv_c (x := (0 : Int32)) (k := 0) (by decide)) c36 (by decide)
    refine lv_iconst (v := 0) hx hb dX10_losesBy_43 (by decide) ?_
    exact J44 (0 : Int32) _ _ _  (iv_w (iv_c (x := (0 : Int32)) (k := 0) (by decide)) (by decide)) hT hS (lv_sub hl [0, 1, 2, 3, 4] rfl)
  · skip
    have f36 := i_nle c36
    have hv33_36r : iv v33 1 2147483647 := iv_ltr (iv_c (x := (0 : Int32)) (k := 0) (by decide)) hv33 (Int32.not_le.mp c36) (by decide)
    refine lv_iconst (v := 1) hx hb dX10_losesBy_39 (by decide) ?_
    refine lv_goto (tgt := 44) hx hb dX10_losesBy_40 (by decide) ?_
    exact J44 (1 : Int32) _ _ _  (iv_w (iv_c (x := (1 : Int32)) (k := 1) (by decide)) (by decide)) hT hS (lv_sub hl [0, 1, 2, 3, 4] rfl)
set_option maxHeartbeats 4000000 in
set_option maxRecDepth 100000 in
theorem t_X10_giftOf (l : Launch) {D : va_G} {c0 : Nat → ClassId} {Y : Nat → Option Nat} {ν : Nat → Nat} {H : Heap} (hT : TI D vwCl (tysOf c0) (RTg ν) Y H) {a0 : Nat} (ha0 : Y a0 = some 10) {x1 : Int32} (hx1 : iv x1 0 7) {x2 : Int32} (hx2 : iv x2 0 7) (hν3 : ν 3 = 0) (hν5 : ν 5 = 0) (hU : uq Y) : Met l yX10_giftOf (wz yX10_giftOf cX10_giftOf 4 (some .int)) { frames := 7, cells := 0, slots := 0, locals := 171 } (TP D vwCl (tysOf c0) H [.ref a0, .int x1, .int x2]) (TQi (fun x H' => TI D vwCl (tysOf c0) (RTg ν) Y H' ∧ iv x (-1) 100000) Y [10, 30, 41, 42]) 0 0 (pW Y [10, 30, 41, 42]) := by
  refine Met.ofW (cc := cX10_giftOf) (maxL := 4) (ret := (some .int)) (by decide) rfl ?_
  intro p e s m args below meth c s₁ B hml hv
  obtain ⟨rfl, rfl, hK⟩ := hv
  have hx := B.exec
  have hb := B.bytes
  have hr := B.returns
  have hts : ∀ w ∈ wq, w.before _ s = true := fun w h => atoms_spec (ws := wz yX10_giftOf cX10_giftOf 4 (some .int)) B.pre w (List.mem_cons_of_mem _ h)
  have hown : s.vm.findClass RX10 = some m.cls := findClass_of_methodNamed B.named
  have hlocks := B.notSynchronized
  obtain ⟨R, hR⟩ : ∃ R : Room, R = ({ frames := 7, cells := 0, slots := 0, locals := 171 } : Room) := ⟨_, rfl⟩
  rw [show (headSpec (wz yX10_giftOf cX10_giftOf 4 (some .int)) { frames := 7, cells := 0, slots := 0, locals := 171 }).room = R from hR.symm]
  refine ti_mi hx hb hr hlocks (fun Q ret => ?_)
  have hl := lv_entry [.ref a0, .int x1, .int x2] (n := 4) (Nat.le_of_ble_eq_true rfl)
  rw [lg_entry_eq]
  generalize (lg_sl [.ref a0, .int x1, .int x2] ++ List.replicate (4 - (lg_sl [.ref a0, .int x1, .int x2]).length) Slot.unset).toArray = ls at hl ⊢
  have hl : lv_has ls 4 [(0, .ref a0), (1, .int x1), (2, .int x2)] := hl
  refine ti_gen (P := fun H => TI D vwCl (tysOf c0) (RTg ν) Y H) (Y := Y) (ws := [10, 30, 41, 42]) hT (fun H locs hT hS => ?_)
  refine lv_iconst (v := 0) hx hb dX10_giftOf_0 (by decide) ?_
  have J2 : ∀ (n : Nat) (j2_L3 : Int32) (H : Heap) (locs : List Loc) (ls : Array Slot), (100001 - j2_L3.toInt).toNat < n → iv j2_L3 0 100001 → TI D vwCl (tysOf c0) (RTg ν) Y H → va_S (pW Y [10, 30, 41, 42]) s.heap H locs → lv_has ls 4 [(0, .ref a0), (1, .int x1), (2, .int x2), (3, .int j2_L3)] → W p l e R s m ([.ref a0, .int x1, .int x2] : List Value).toArray below meth c H locs 0 0 Q (F0 m 2 ls []) := by
    intro n
    induction n with
    | zero => intro j2_L3 H locs ls hms; exact absurd hms (Nat.not_lt_zero _)
    | succ n ih2 =>
      intro j2_L3 H locs ls hms2 hj2_L3 hT hS hl
      refine lv_iload_n hx hb dX10_giftOf_2 rfl (lv_at hl 3 rfl) ?_
      refine lv_aload_n hx hb dX10_giftOf_3 rfl (lv_at hl 0 rfl) ?_
      refine lv_iload_n hx hb dX10_giftOf_4 rfl (lv_at hl 1 rfl) ?_
      refine lv_iconst (v := 0) hx hb dX10_giftOf_5 (by decide) ?_
      refine ti_calli (va_runV (As := [.int x1, .int (0 : Int32)]) (rest := [.int j2_L3]) ⟨hx, hb, hml, hown, hts⟩ (t_X10_of l hT ha0 (iv_w hx1 (by decide)) (iv_w (iv_c (x := (0 : Int32)) (k := 0) (by decide)) (by decide)) hU) (cwV 2 hts (good_V kw_490 kw_491 kw_492 kw_5 kw_493) rfl rfl rfl (by decide +kernel) ⟨by rw [hR]; decide, by rw [hR]; decide⟩) (ti_preV hK hT ha0 rfl rfl) rfl rfl hl.1 rfl (lv_room (Nat.le_of_ble_eq_true rfl)) dX10_giftOf_6 ⟨Nat.zero_le _, Nat.zero_le _⟩) hS (pW_sub rfl) (fun v6 H1 locs hB hS _ hk6 => ?_)
      obtain ⟨hH, hp6⟩ := hB
      rw [hH] at hS ⊢
      have kl0 : (0 : Int32).toInt = 0 := by decide
      have hf6 : iv v6 (-2147483648) 100000 := by have b0a := ((iv_top v6)).1; have b0b := ((iv_top v6)).2; exact ⟨by omega, by omega⟩
      refine lv_icmp_gt (tgt := 31) hx hb dX10_giftOf_9 (by decide) (fun c9 => ?_) (fun c9 => ?_)
      · skip
        have f9 := i_lt c9
        refine lv_iconst (v := (-1)) hx hb dX10_giftOf_31 (by decide) ?_
        exact ret _ _ _ _ _ dX10_giftOf_32 (⟨hT, iv_w (iv_c (x := (-1 : Int32)) (k := (-1)) (by decide)) (by decide)⟩) hS
      · skip
        have f9 := i_nlt c9
        have hj2_L3_9l : iv j2_L3 0 100000 := iv_lel hj2_L3 hf6 (Int32.not_lt.mp c9) (by decide)
        have hv6_9r : iv v6 0 100000 := iv_ler hj2_L3_9l hf6 (Int32.not_lt.mp c9) (by decide)
        refine lv_aload_n hx hb dX10_giftOf_12 rfl (lv_at hl 0 rfl) ?_
        refine lv_iload_n hx hb dX10_giftOf_13 rfl (lv_at hl 1 rfl) ?_
        refine lv_iload_n hx hb dX10_giftOf_14 rfl (lv_at hl 2 rfl) ?_
        refine lv_iload_n hx hb dX10_giftOf_15 rfl (lv_at hl 3 rfl) ?_
        refine lv_iload_n hx hb dX10_giftOf_16 rfl (lv_at hl 1 rfl) ?_
        refine ti_calli (va_runV (As := [.int x1, .int x2, .int j2_L3, .int x1]) (rest := []) ⟨hx, hb, hml, hown, hts⟩ (t_X10_losesBy l hT ha0 (iv_w hx1 (by decide)) (iv_w hx2 (by decide)) (iv_w hj2_L3_9l (by decide)) (iv_w hx1 (by decide)) hν3 hν5 hU) (cwV 4 hts (good_V kw_1058 kw_1059 kw_1060 kw_5 kw_1061) rfl rfl rfl (by decide +kernel) ⟨by rw [hR]; decide, by rw [hR]; decide⟩) (ti_preV hK hT ha0 rfl rfl) rfl rfl hl.1 rfl (lv_room (Nat.le_of_ble_eq_true rfl)) dX10_giftOf_17 ⟨Nat.zero_le _, Nat.zero_le _⟩) hS (pW_sub rfl) (fun v17 H locs hB hS _ hk17 => ?_)
        obtain ⟨hT, hv17⟩ := hB
        refine lv_if_ne (tgt := 25) hx hb dX10_giftOf_20 (by decide) (fun c20 => ?_) (fun c20 => ?_)
        · skip
          have f20 := i_ne c20
          have hv17_20l : iv v17 1 1 := iv_nel hv17 (iv_c (x := (0 : Int32)) (k := 0) (by decide)) c20 (by decide)
          obtain ⟨v25, e25⟩ : ∃ y : Int32, y = j2_L3 + 1 := ⟨_, rfl⟩
          have hv25 : iv v25 1 100001 := by rw [e25]; exact iv_w (iv_add hj2_L3_9l (iv_c (x := (1 : Int32)) (k := 1) (by decide)) (by decide)) (by decide)
          have s25 : v25.toInt = j2_L3.toInt + 1 := by rw [e25, iv_addE hj2_L3_9l (iv_c (x := (1 : Int32)) (k := 1) (by decide)) (by decide)]; rfl
          refine lv_iinc (v := v25) (lv' := [(3, .int v25), (0, .ref a0), (1, .int x1), (2, .int x2)]) hx hb dX10_giftOf_25 hl (k := 3) rfl (by rw [e25]; rfl) (by decide) rfl (fun ls hl => ?_)
          refine lv_goto (tgt := 2) hx hb dX10_giftOf_28 (by decide) ?_
          exact ih2 v25 _ _ _ (ms_up hms2 (by have := s25; omega) (iv_w (c := 1) (d := 100001) hv25 (by decide)).2) (iv_w hv25 (by decide)) hT hS (lv_sub hl [1, 2, 3, 0] rfl)
        · skip
          have f20 := i_eq c20
          have hv17_20l : iv v17 0 0 := iv_eql hv17 (iv_c (x := (0 : Int32)) (k := 0) (by decide)) c20 (by decide)
          refine lv_iload_n hx hb dX10_giftOf_23 rfl (lv_at hl 3 rfl) ?_
          exact ret _ _ _ _ _ dX10_giftOf_24 (⟨hT, iv_w hj2_L3_9l (by decide)⟩) hS
  refine lv_istore_n (lv' := [(3, .int (0 : Int32)), (0, .ref a0), (1, .int x1), (2, .int x2)]) hx hb dX10_giftOf_1 rfl hl (by decide) rfl (fun ls hl => ?_)
  exact J2 _ (0 : Int32) _ _ _ (Nat.lt_succ_self _) (iv_w (iv_c (x := (0 : Int32)) (k := 0) (by decide)) (by decide)) hT hS (lv_sub hl [1, 2, 3, 0] rfl)
set_option maxHeartbeats 4000000 in
set_option maxRecDepth 100000 in
theorem t_X10_gift (l : Launch) {D : va_G} {c0 : Nat → ClassId} {Y : Nat → Option Nat} {ν : Nat → Nat} {H : Heap} (hT : TI D vwCl (tysOf c0) (RTg ν) Y H) {a0 : Nat} (ha0 : Y a0 = some 10) {x1 : Int32} (hx1 : iv x1 (-2147483648) 2147483647) {x2 : Int32} (hx2 : iv x2 (-2147483648) 2147483647) (hν3 : ν 3 = 0) (hν5 : ν 5 = 0) (hU : uq Y) : Met l yX10_gift (wz yX10_gift cX10_gift 3 (some .int)) { frames := 8, cells := 0, slots := 0, locals := 194 } (TP D vwCl (tysOf c0) H [.ref a0, .int x1, .int x2]) (TQi (fun x H' => TI D vwCl (tysOf c0) (RTg ν) Y H' ∧ iv x (-2) 100000) Y [10, 30, 41, 42]) 0 0 (pW Y [10, 30, 41, 42]) := by
  refine Met.ofW (cc := cX10_gift) (maxL := 3) (ret := (some .int)) (by decide) rfl ?_
  intro p e s m args below meth c s₁ B hml hv
  obtain ⟨rfl, rfl, hK⟩ := hv
  have hx := B.exec
  have hb := B.bytes
  have hr := B.returns
  have hts : ∀ w ∈ wq, w.before _ s = true := fun w h => atoms_spec (ws := wz yX10_gift cX10_gift 3 (some .int)) B.pre w (List.mem_cons_of_mem _ h)
  have hown : s.vm.findClass RX10 = some m.cls := findClass_of_methodNamed B.named
  have hlocks := B.notSynchronized
  obtain ⟨R, hR⟩ : ∃ R : Room, R = ({ frames := 8, cells := 0, slots := 0, locals := 194 } : Room) := ⟨_, rfl⟩
  rw [show (headSpec (wz yX10_gift cX10_gift 3 (some .int)) { frames := 8, cells := 0, slots := 0, locals := 194 }).room = R from hR.symm]
  refine ti_mi hx hb hr hlocks (fun Q ret => ?_)
  have hl := lv_entry [.ref a0, .int x1, .int x2] (n := 3) (Nat.le_of_ble_eq_true rfl)
  rw [lg_entry_eq]
  generalize (lg_sl [.ref a0, .int x1, .int x2] ++ List.replicate (3 - (lg_sl [.ref a0, .int x1, .int x2]).length) Slot.unset).toArray = ls at hl ⊢
  have hl : lv_has ls 3 [(0, .ref a0), (1, .int x1), (2, .int x2)] := hl
  refine ti_gen (P := fun H => TI D vwCl (tysOf c0) (RTg ν) Y H) (Y := Y) (ws := [10, 30, 41, 42]) hT (fun H locs hT hS => ?_)
  refine lv_aload_n hx hb dX10_gift_0 rfl (lv_at hl 0 rfl) ?_
  refine lv_iload_n hx hb dX10_gift_1 rfl (lv_at hl 1 rfl) ?_
  refine lv_iload_n hx hb dX10_gift_2 rfl (lv_at hl 2 rfl) ?_
  refine ti_calli (va_runV (As := [.int x1, .int x2]) (rest := []) ⟨hx, hb, hml, hown, hts⟩ (t_X10_areTwo l hT ha0 (iv_w hx1 (by decide)) (iv_w hx2 (by decide)) hU) (cwV 2 hts (good_V kw_545 kw_546 kw_547 kw_5 kw_548) rfl rfl rfl (by decide +kernel) ⟨by rw [hR]; decide, by rw [hR]; decide⟩) (ti_preV hK hT ha0 rfl rfl) rfl rfl hl.1 rfl (lv_room (Nat.le_of_ble_eq_true rfl)) dX10_gift_3 ⟨Nat.zero_le _, Nat.zero_le _⟩) hS (pW_sub rfl) (fun v3 H1 locs hB hS _ hk3 => ?_)
  obtain ⟨hH, hv3, hp3⟩ := hB
  rw [hH] at hS ⊢
  refine lv_if_eq (tgt := 18) hx hb dX10_gift_6 (by decide) (fun c6 => ?_) (fun c6 => ?_)
  · skip
    have kl0 : (0 : Int32).toInt = 0 := by decide
    have f6 := i_eq c6
    have hv3_6l : iv v3 0 0 := iv_eql hv3 (iv_c (x := (0 : Int32)) (k := 0) (by decide)) c6 (by decide)
    refine lv_bipush (v := (-2)) hx hb dX10_gift_18 (by decide) ?_
    exact ret _ _ _ _ _ dX10_gift_20 (⟨hT, iv_w (iv_c (x := (-2 : Int32)) (k := (-2)) (by decide)) (by decide)⟩) hS
  · skip
    have kl0 : (0 : Int32).toInt = 0 := by decide
    have f6 := i_ne c6
    have hv3_6l : iv v3 1 1 := iv_nel hv3 (iv_c (x := (0 : Int32)) (k := 0) (by decide)) c6 (by decide)
    have hx1_6p : iv x1 0 7 := by have b0a := (hx1).1; have b0b := (hx1).2; exact ⟨by omega, by omega⟩
    have hx2_6p : iv x2 0 7 := by have b0a := (hx2).1; have b0b := (hx2).2; exact ⟨by omega, by omega⟩
    refine lv_aload_n hx hb dX10_gift_9 rfl (lv_at hl 0 rfl) ?_
    refine lv_iload_n hx hb dX10_gift_10 rfl (lv_at hl 1 rfl) ?_
    refine lv_iload_n hx hb dX10_gift_11 rfl (lv_at hl 2 rfl) ?_
    refine ti_calli (va_runV (As := [.int x1, .int x2]) (rest := []) ⟨hx, hb, hml, hown, hts⟩ (t_X10_giftOf l hT ha0 (iv_w hx1_6p (by decide)) (iv_w hx2_6p (by decide)) hν3 hν5 hU) (cwV 2 hts (good_V kw_1054 kw_1055 kw_1056 kw_5 kw_1057) rfl rfl rfl (by decide +kernel) ⟨by rw [hR]; decide, by rw [hR]; decide⟩) (ti_preV hK hT ha0 rfl rfl) rfl rfl hl.1 rfl (lv_room (Nat.le_of_ble_eq_true rfl)) dX10_gift_12 ⟨Nat.zero_le _, Nat.zero_le _⟩) hS (pW_sub rfl) (fun v12 H locs hB hS _ hk12 => ?_)
    obtain ⟨hT, hv12⟩ := hB
    refine lv_goto (tgt := 20) hx hb dX10_gift_15 (by decide) ?_
    exact ret _ _ _ _ _ dX10_gift_20 (⟨hT, iv_w hv12 (by decide)⟩) hS
set_option maxHeartbeats 4000000 in
set_option maxRecDepth 100000 in
theorem t_X10_gifts (l : Launch) {D : va_G} {c0 : Nat → ClassId} {Y : Nat → Option Nat} {ν : Nat → Nat} {H : Heap} (hT : TI D vwCl (tysOf c0) (RTg ν) Y H) {a0 : Nat} (ha0 : Y a0 = some 10) {x1 : Int32} (hx1 : iv x1 (-2147483648) 2147483647) (hν3 : ν 3 = 0) (hν5 : ν 5 = 0) (hU : uq Y) : Met l yX10_gifts (wz yX10_gifts cX10_gifts 6 (some .int)) { frames := 8, cells := 0, slots := 0, locals := 194 } (TP D vwCl (tysOf c0) H [.ref a0, .int x1]) (TQi (fun x H' => TI D vwCl (tysOf c0) (RTg ν) Y H' ∧ iv x (-2) 7) Y [10, 30, 41, 42]) 0 0 (pW Y [10, 30, 41, 42]) := by
  refine Met.ofW (cc := cX10_gifts) (maxL := 6) (ret := (some .int)) (by decide) rfl ?_
  intro p e s m args below meth c s₁ B hml hv
  obtain ⟨rfl, rfl, hK⟩ := hv
  have hx := B.exec
  have hb := B.bytes
  have hr := B.returns
  have hts : ∀ w ∈ wq, w.before _ s = true := fun w h => atoms_spec (ws := wz yX10_gifts cX10_gifts 6 (some .int)) B.pre w (List.mem_cons_of_mem _ h)
  have hown : s.vm.findClass RX10 = some m.cls := findClass_of_methodNamed B.named
  have hlocks := B.notSynchronized
  obtain ⟨R, hR⟩ : ∃ R : Room, R = ({ frames := 8, cells := 0, slots := 0, locals := 194 } : Room) := ⟨_, rfl⟩
  rw [show (headSpec (wz yX10_gifts cX10_gifts 6 (some .int)) { frames := 8, cells := 0, slots := 0, locals := 194 }).room = R from hR.symm]
  refine ti_mi hx hb hr hlocks (fun Q ret => ?_)
  have hl := lv_entry [.ref a0, .int x1] (n := 6) (Nat.le_of_ble_eq_true rfl)
  rw [lg_entry_eq]
  generalize (lg_sl [.ref a0, .int x1] ++ List.replicate (6 - (lg_sl [.ref a0, .int x1]).length) Slot.unset).toArray = ls at hl ⊢
  have hl : lv_has ls 6 [(0, .ref a0), (1, .int x1)] := hl
  refine ti_gen (P := fun H => TI D vwCl (tysOf c0) (RTg ν) Y H) (Y := Y) (ws := [10, 30, 41, 42]) hT (fun H locs hT hS => ?_)
  refine lv_aload_n hx hb dX10_gifts_0 rfl (lv_at hl 0 rfl) ?_
  refine lv_iload_n hx hb dX10_gifts_1 rfl (lv_at hl 1 rfl) ?_
  refine ti_calli (va_runV (As := [.int x1]) (rest := []) ⟨hx, hb, hml, hown, hts⟩ (t_X10_isPerson l hT ha0 (iv_w hx1 (by decide)) hU) (cwV 1 hts (good_V kw_486 kw_487 kw_488 kw_5 kw_489) rfl rfl rfl (by decide +kernel) ⟨by rw [hR]; decide, by rw [hR]; decide⟩) (ti_preV hK hT ha0 rfl rfl) rfl rfl hl.1 rfl (lv_room (Nat.le_of_ble_eq_true rfl)) dX10_gifts_2 ⟨Nat.zero_le _, Nat.zero_le _⟩) hS (pW_sub rfl) (fun v2 H1 locs hB hS _ hk2 => ?_)
  obtain ⟨hH, hv2, hp2⟩ := hB
  rw [hH] at hS ⊢
  refine lv_if_ne (tgt := 11) hx hb dX10_gifts_5 (by decide) (fun c5 => ?_) (fun c5 => ?_)
  · skip
    have kl0 : (0 : Int32).toInt = 0 := by decide
    have f5 := i_ne c5
    have hv2_5l : iv v2 1 1 := iv_nel hv2 (iv_c (x := (0 : Int32)) (k := 0) (by decide)) c5 (by decide)
    have hx1_5p : iv x1 0 7 := by have b0a := (hx1).1; have b0b := (hx1).2; exact ⟨by omega, by omega⟩
    refine lv_iconst (v := (-1)) hx hb dX10_gifts_11 (by decide) ?_
    refine lv_istore_n (lv' := [(2, .int (-1 : Int32)), (0, .ref a0), (1, .int x1)]) hx hb dX10_gifts_12 rfl hl (by decide) rfl (fun ls hl => ?_)
    refine lv_iconst (v := 0) hx hb dX10_gifts_13 (by decide) ?_
    refine lv_istore_n (lv' := [(3, .int (0 : Int32)), (2, .int (-1 : Int32)), (0, .ref a0), (1, .int x1)]) hx hb dX10_gifts_14 rfl hl (by decide) rfl (fun ls hl => ?_)
    refine lv_iconst (v := 0) hx hb dX10_gifts_15 (by decide) ?_
    have J18 : ∀ (n : Nat) (j18_L2 : Int32) (j18_L3 : Int32) (j18_L4 : Int32) (H : Heap) (locs : List Loc) (ls : Array Slot), (8 - j18_L4.toInt).toNat < n → iv j18_L2 (-1) 7 → iv j18_L3 0 100000 → iv j18_L4 0 8 → TI D vwCl (tysOf c0) (RTg ν) Y H → va_S (pW Y [10, 30, 41, 42]) s.heap H locs → lv_has ls 6 [(0, .ref a0), (1, .int x1), (2, .int j18_L2), (3, .int j18_L3), (4, .int j18_L4)] → W p l e R s m ([.ref a0, .int x1] : List Value).toArray below meth c H locs 0 0 Q (F0 m 18 ls []) := by
      intro n
      induction n with
      | zero => intro j18_L2 j18_L3 j18_L4 H locs ls hms; exact absurd hms (Nat.not_lt_zero _)
      | succ n ih18 =>
        intro j18_L2 j18_L3 j18_L4 H locs ls hms18 hj18_L2 hj18_L3 hj18_L4 hT hS hl
        refine lv_iload hx hb dX10_gifts_18 (lv_at hl 4 rfl) ?_
        refine lv_aload_n hx hb dX10_gifts_20 rfl (lv_at hl 0 rfl) ?_
        refine ti_calli (va_runV (As := []) (rest := [.int j18_L4]) ⟨hx, hb, hml, hown, hts⟩ (t_X10_people l hT ha0 hU) (cwV 0 hts (good_V kw_605 kw_606 kw_607 kw_5 kw_608) rfl rfl rfl (by decide +kernel) ⟨by rw [hR]; decide, by rw [hR]; decide⟩) (ti_preV hK hT ha0 rfl rfl) rfl rfl hl.1 rfl (lv_room (Nat.le_of_ble_eq_true rfl)) dX10_gifts_21 ⟨Nat.zero_le _, Nat.zero_le _⟩) hS (pW_sub rfl) (fun v21 H1 locs hB hS _ hk21 => ?_)
        obtain ⟨hH, hv21, hp21⟩ := hB
        rw [hH] at hS ⊢
        refine lv_icmp_ge (tgt := 78) hx hb dX10_gifts_24 (by decide) (fun c24 => ?_) (fun c24 => ?_)
        · skip
          have f24 := i_le c24
          refine lv_iload_n hx hb dX10_gifts_78 rfl (lv_at hl 2 rfl) ?_
          exact ret _ _ _ _ _ dX10_gifts_79 (⟨hT, iv_w hj18_L2 (by decide)⟩) hS
        · skip
          have f24 := i_nle c24
          have hj18_L4_24l : iv j18_L4 0 7 := iv_ltl hj18_L4 hv21 (Int32.not_le.mp c24) (by decide)
          have hv21_24r : iv v21 1 8 := iv_ltr hj18_L4_24l hv21 (Int32.not_le.mp c24) (by decide)
          refine lv_iload hx hb dX10_gifts_27 (lv_at hl 4 rfl) ?_
          refine lv_iload_n hx hb dX10_gifts_29 rfl (lv_at hl 1 rfl) ?_
          have J44 : ∀ (j44_S0 : Int32) (H : Heap) (locs : List Loc) (ls : Array Slot), iv j44_S0 (-1) 100000 → TI D vwCl (tysOf c0) (RTg ν) Y H → va_S (pW Y [10, 30, 41, 42]) s.heap H locs → lv_has ls 6 [(0, .ref a0), (1, .int x1), (2, .int j18_L2), (3, .int j18_L3), (4, .int j18_L4)] → W p l e R s m ([.ref a0, .int x1] : List Value).toArray below meth c H locs 0 0 Q (F0 m 44 ls [.int j44_S0]) := by
            intro j44_S0 H locs ls hj44_S0 hT hS hl
            refine lv_istore (lv' := [(5, .int j44_S0), (0, .ref a0), (1, .int x1), (2, .int j18_L2), (3, .int j18_L3), (4, .int j18_L4)]) hx hb dX10_gifts_44 hl (by decide) rfl (fun ls hl => ?_)
            refine lv_iload hx hb dX10_gifts_46 (lv_at hl 0 rfl) ?_
            refine lv_iconst (v := (-1)) hx hb dX10_gifts_48 (by decide) ?_
            have J72 : ∀ (j72_L2 : Int32) (j72_L3 : Int32) (H : Heap) (locs : List Loc) (ls : Array Slot), iv j72_L2 (-1) 7 → iv j72_L3 0 100000 → TI D vwCl (tysOf c0) (RTg ν) Y H → va_S (pW Y [10, 30, 41, 42]) s.heap H locs → lv_has ls 6 [(0, .ref a0), (1, .int x1), (2, .int j72_L2), (3, .int j72_L3), (4, .int j18_L4), (5, .int j44_S0)] → W p l e R s m ([.ref a0, .int x1] : List Value).toArray below meth c H locs 0 0 Q (F0 m 72 ls []) := by
              intro j72_L2 j72_L3 H locs ls hj72_L2 hj72_L3 hT hS hl
              obtain ⟨v72, e72⟩ : ∃ y : Int32, y = j18_L4 + 1 := ⟨_, rfl⟩
              have hv72 : iv v72 1 8 := by rw [e72]; exact iv_w (iv_add hj18_L4_24l (iv_c (x := (1 : Int32)) (k := 1) (by decide)) (by decide)) (by decide)
              have s72 : v72.toInt = j18_L4.toInt + 1 := by rw [e72, iv_addE hj18_L4_24l (iv_c (x := (1 : Int32)) (k := 1) (by decide)) (by decide)]; rfl
              refine lv_iinc (v := v72) (lv' := [(4, .int v72), (0, .ref a0), (1, .int x1), (2, .int j72_L2), (3, .int j72_L3), (5, .int j44_S0)]) hx hb dX10_gifts_72 hl (k := 4) rfl (by rw [e72]; rfl) (by decide) rfl (fun ls hl => ?_)
              refine lv_goto (tgt := 18) hx hb dX10_gifts_75 (by decide) ?_
              exact ih18 j72_L2 j72_L3 v72 _ _ _ (ms_up hms18 (by have := s72; omega) (iv_w (c := 1) (d := 8) hv72 (by decide)).2) (iv_w hj72_L2 (by decide)) (iv_w hj72_L3 (by decide)) (iv_w hv72 (by decide)) hT hS (lv_sub hl [1, 2, 3, 4, 0] rfl)
            refine lv_icmp_eq (tgt := 72) hx hb dX10_gifts_49 (by decide) (fun c49 => ?_) (fun c49 => ?_)
            · skip
              have klm1 : (-1 : Int32).toInt = (-1) := by decide
              have f49 := i_eq c49
              have hj44_S0_49l : iv j44_S0 (-1) (-1) := iv_eql hj44_S0 (iv_c (x := (-1 : Int32)) (k := (-1)) (by decide)) c49 (by decide)
              exact J72 j18_L2 j18_L3 _ _ _  (iv_w hj18_L2 (by decide)) (iv_w hj18_L3 (by decide)) hT hS (lv_sub hl [1, 2, 3, 4, 5, 0] rfl)
            · skip
              have klm1 : (-1 : Int32).toInt = (-1) := by decide
              have f49 := i_ne c49
              have hj44_S0_49l : iv j44_S0 0 100000 := iv_nel hj44_S0 (iv_c (x := (-1 : Int32)) (k := (-1)) (by decide)) c49 (by decide)
              refine lv_iload_n hx hb dX10_gifts_52 rfl (lv_at hl 3 rfl) ?_
              refine lv_iconst (v := (-1)) hx hb dX10_gifts_53 (by decide) ?_
              have J66 : ∀  (H : Heap) (locs : List Loc) (ls : Array Slot), TI D vwCl (tysOf c0) (RTg ν) Y H → va_S (pW Y [10, 30, 41, 42]) s.heap H locs → lv_has ls 6 [(0, .ref a0), (1, .int x1), (2, .int j18_L2), (3, .int j18_L3), (4, .int j18_L4), (5, .int j44_S0)] → W p l e R s m ([.ref a0, .int x1] : List Value).toArray below meth c H locs 0 0 Q (F0 m 66 ls []) := by
                intro  H locs ls  hT hS hl
                refine lv_iload hx hb dX10_gifts_66 (lv_at hl 4 rfl) ?_
                refine lv_istore_n (lv' := [(2, .int j18_L4), (0, .ref a0), (1, .int x1), (3, .int j18_L3), (4, .int j18_L4), (5, .int j44_S0)]) hx hb dX10_gifts_68 rfl hl (by decide) rfl (fun ls hl => ?_)
                refine lv_iload hx hb dX10_gifts_69 (lv_at hl 5 rfl) ?_
                refine lv_istore_n (lv' := [(3, .int j44_S0), (2, .int j18_L4), (0, .ref a0), (1, .int x1), (4, .int j18_L4), (5, .int j44_S0)]) hx hb dX10_gifts_71 rfl hl (by decide) rfl (fun ls hl => ?_)
                exact J72 j18_L4 j44_S0 _ _ _  (iv_w hj18_L4_24l (by decide)) (iv_w hj44_S0_49l (by decide)) hT hS (lv_sub hl [2, 3, 1, 0, 4, 5] rfl)
              refine lv_icmp_eq (tgt := 66) hx hb dX10_gifts_54 (by decide) (fun c54 => ?_) (fun c54 => ?_)
              · skip
                have f54 := i_eq c54
                have hj18_L2_54l : iv j18_L2 (-1) (-1) := iv_eql hj18_L2 (iv_c (x := (-1 : Int32)) (k := (-1)) (by decide)) c54 (by decide)
                exact J66  _ _ _   hT hS (lv_sub hl [1, 2, 3, 4, 5, 0] rfl)
              · skip
                have f54 := i_ne c54
                have hj18_L2_54l : iv j18_L2 0 7 := iv_nel hj18_L2 (iv_c (x := (-1 : Int32)) (k := (-1)) (by decide)) c54 (by decide)
                refine lv_iload hx hb dX10_gifts_57 (lv_at hl 0 rfl) ?_
                refine lv_iload_n hx hb dX10_gifts_59 rfl (lv_at hl 4 rfl) ?_
                refine lv_icmp_lt (tgt := 66) hx hb dX10_gifts_60 (by decide) (fun c60 => ?_) (fun c60 => ?_)
                · skip
                  have f60 := i_lt c60
                  have hj44_S0_60l : iv j44_S0 0 99999 := iv_ltl hj44_S0_49l hj18_L3 c60 (by decide)
                  have hj18_L3_60r : iv j18_L3 1 100000 := iv_ltr hj44_S0_60l hj18_L3 c60 (by decide)
                  exact J66  _ _ _   hT hS (lv_sub hl [1, 2, 3, 4, 5, 0] rfl)
                · skip
                  have f60 := i_nlt c60
                  refine lv_goto (tgt := 72) hx hb dX10_gifts_63 (by decide) ?_
                  exact J72 j18_L2 j18_L3 _ _ _  (iv_w hj18_L2_54l (by decide)) (iv_w hj18_L3 (by decide)) hT hS (lv_sub hl [1, 2, 3, 4, 5, 0] rfl)
          refine lv_icmp_ne (tgt := 37) hx hb dX10_gifts_30 (by decide) (fun c30 => ?_) (fun c30 => ?_)
          · skip
            have f30 := i_ne c30
            refine lv_aload_n hx hb dX10_gifts_37 rfl (lv_at hl 0 rfl) ?_
            refine lv_iload_n hx hb dX10_gifts_38 rfl (lv_at hl 1 rfl) ?_
            refine lv_iload hx hb dX10_gifts_39 (lv_at hl 4 rfl) ?_
            refine ti_calli (va_runV (As := [.int x1, .int j18_L4]) (rest := []) ⟨hx, hb, hml, hown, hts⟩ (t_X10_giftOf l hT ha0 (iv_w hx1_5p (by decide)) (iv_w hj18_L4_24l (by decide)) hν3 hν5 hU) (cwV 2 hts (good_V kw_1054 kw_1055 kw_1056 kw_5 kw_1057) rfl rfl rfl (by decide +kernel) ⟨by rw [hR]; decide, by rw [hR]; decide⟩) (ti_preV hK hT ha0 rfl rfl) rfl rfl hl.1 rfl (lv_room (Nat.le_of_ble_eq_true rfl)) dX10_gifts_41 ⟨Nat.zero_le _, Nat.zero_le _⟩) hS (pW_sub rfl) (fun v41 H locs hB hS _ hk41 => ?_)
            obtain ⟨hT, hv41⟩ := hB
            exact J44 v41 _ _ _  (iv_w hv41 (by decide)) hT hS (lv_sub hl [0, 1, 2, 3, 4] rfl)
          · skip
            have f30 := i_eq c30
            refine lv_iconst (v := (-1)) hx hb dX10_gifts_33 (by decide) ?_
            refine lv_goto (tgt := 44) hx hb dX10_gifts_34 (by decide) ?_
            exact J44 (-1 : Int32) _ _ _  (iv_w (iv_c (x := (-1 : Int32)) (k := (-1)) (by decide)) (by decide)) hT hS (lv_sub hl [0, 1, 2, 3, 4] rfl)
    refine lv_istore (lv' := [(4, .int (0 : Int32)), (3, .int (0 : Int32)), (2, .int (-1 : Int32)), (0, .ref a0), (1, .int x1)]) hx hb dX10_gifts_16 hl (by decide) rfl (fun ls hl => ?_)
    exact J18 _ (-1 : Int32) (0 : Int32) (0 : Int32) _ _ _ (Nat.lt_succ_self _) (iv_w (iv_c (x := (-1 : Int32)) (k := (-1)) (by decide)) (by decide)) (iv_w (iv_c (x := (0 : Int32)) (k := 0) (by decide)) (by decide)) (iv_w (iv_c (x := (0 : Int32)) (k := 0) (by decide)) (by decide)) hT hS (lv_sub hl [3, 4, 2, 1, 0] rfl)
  · skip
    have kl0 : (0 : Int32).toInt = 0 := by decide
    have f5 := i_eq c5
    have hv2_5l : iv v2 0 0 := iv_eql hv2 (iv_c (x := (0 : Int32)) (k := 0) (by decide)) c5 (by decide)
    refine lv_bipush (v := (-2)) hx hb dX10_gifts_8 (by decide) ?_
    exact ret _ _ _ _ _ dX10_gifts_10 (⟨hT, iv_w (iv_c (x := (-2 : Int32)) (k := (-2)) (by decide)) (by decide)⟩) hS
set_option maxHeartbeats 4000000 in
set_option maxRecDepth 100000 in
theorem t_X10_breakOf (l : Launch) {D : va_G} {c0 : Nat → ClassId} {Y : Nat → Option Nat} {ν : Nat → Nat} {H : Heap} (hT : TI D vwCl (tysOf c0) (RTg ν) Y H) {a0 : Nat} (ha0 : Y a0 = some 10) {x1 : Int32} (hx1 : iv x1 0 7) {x2 : Int32} (hx2 : iv x2 0 7) (hν3 : ν 3 = 0) (hν5 : ν 5 = 0) (hU : uq Y) : Met l yX10_breakOf (wz yX10_breakOf cX10_breakOf 4 (some .int)) { frames := 7, cells := 0, slots := 0, locals := 171 } (TP D vwCl (tysOf c0) H [.ref a0, .int x1, .int x2]) (TQi (fun x H' => TI D vwCl (tysOf c0) (RTg ν) Y H' ∧ iv x (-1) 100000) Y [10, 30, 41, 42]) 0 0 (pW Y [10, 30, 41, 42]) := by
  refine Met.ofW (cc := cX10_breakOf) (maxL := 4) (ret := (some .int)) (by decide) rfl ?_
  intro p e s m args below meth c s₁ B hml hv
  obtain ⟨rfl, rfl, hK⟩ := hv
  have hx := B.exec
  have hb := B.bytes
  have hr := B.returns
  have hts : ∀ w ∈ wq, w.before _ s = true := fun w h => atoms_spec (ws := wz yX10_breakOf cX10_breakOf 4 (some .int)) B.pre w (List.mem_cons_of_mem _ h)
  have hown : s.vm.findClass RX10 = some m.cls := findClass_of_methodNamed B.named
  have hlocks := B.notSynchronized
  obtain ⟨R, hR⟩ : ∃ R : Room, R = ({ frames := 7, cells := 0, slots := 0, locals := 171 } : Room) := ⟨_, rfl⟩
  rw [show (headSpec (wz yX10_breakOf cX10_breakOf 4 (some .int)) { frames := 7, cells := 0, slots := 0, locals := 171 }).room = R from hR.symm]
  refine ti_mi hx hb hr hlocks (fun Q ret => ?_)
  have hl := lv_entry [.ref a0, .int x1, .int x2] (n := 4) (Nat.le_of_ble_eq_true rfl)
  rw [lg_entry_eq]
  generalize (lg_sl [.ref a0, .int x1, .int x2] ++ List.replicate (4 - (lg_sl [.ref a0, .int x1, .int x2]).length) Slot.unset).toArray = ls at hl ⊢
  have hl : lv_has ls 4 [(0, .ref a0), (1, .int x1), (2, .int x2)] := hl
  refine ti_gen (P := fun H => TI D vwCl (tysOf c0) (RTg ν) Y H) (Y := Y) (ws := [10, 30, 41, 42]) hT (fun H locs hT hS => ?_)
  refine lv_iconst (v := 0) hx hb dX10_breakOf_0 (by decide) ?_
  have J2 : ∀ (n : Nat) (j2_L3 : Int32) (H : Heap) (locs : List Loc) (ls : Array Slot), (100001 - j2_L3.toInt).toNat < n → iv j2_L3 0 100001 → TI D vwCl (tysOf c0) (RTg ν) Y H → va_S (pW Y [10, 30, 41, 42]) s.heap H locs → lv_has ls 4 [(0, .ref a0), (1, .int x1), (2, .int x2), (3, .int j2_L3)] → W p l e R s m ([.ref a0, .int x1, .int x2] : List Value).toArray below meth c H locs 0 0 Q (F0 m 2 ls []) := by
    intro n
    induction n with
    | zero => intro j2_L3 H locs ls hms; exact absurd hms (Nat.not_lt_zero _)
    | succ n ih2 =>
      intro j2_L3 H locs ls hms2 hj2_L3 hT hS hl
      refine lv_iload_n hx hb dX10_breakOf_2 rfl (lv_at hl 3 rfl) ?_
      refine lv_aload_n hx hb dX10_breakOf_3 rfl (lv_at hl 0 rfl) ?_
      refine lv_iload_n hx hb dX10_breakOf_4 rfl (lv_at hl 1 rfl) ?_
      refine lv_iconst (v := 0) hx hb dX10_breakOf_5 (by decide) ?_
      refine ti_calli (va_runV (As := [.int x1, .int (0 : Int32)]) (rest := [.int j2_L3]) ⟨hx, hb, hml, hown, hts⟩ (t_X10_of l hT ha0 (iv_w hx1 (by decide)) (iv_w (iv_c (x := (0 : Int32)) (k := 0) (by decide)) (by decide)) hU) (cwV 2 hts (good_V kw_490 kw_491 kw_492 kw_5 kw_493) rfl rfl rfl (by decide +kernel) ⟨by rw [hR]; decide, by rw [hR]; decide⟩) (ti_preV hK hT ha0 rfl rfl) rfl rfl hl.1 rfl (lv_room (Nat.le_of_ble_eq_true rfl)) dX10_breakOf_6 ⟨Nat.zero_le _, Nat.zero_le _⟩) hS (pW_sub rfl) (fun v6 H1 locs hB hS _ hk6 => ?_)
      obtain ⟨hH, hp6⟩ := hB
      rw [hH] at hS ⊢
      have kl0 : (0 : Int32).toInt = 0 := by decide
      have hf6 : iv v6 (-2147483648) 100000 := by have b0a := ((iv_top v6)).1; have b0b := ((iv_top v6)).2; exact ⟨by omega, by omega⟩
      refine lv_icmp_gt (tgt := 31) hx hb dX10_breakOf_9 (by decide) (fun c9 => ?_) (fun c9 => ?_)
      · skip
        have f9 := i_lt c9
        refine lv_iconst (v := (-1)) hx hb dX10_breakOf_31 (by decide) ?_
        exact ret _ _ _ _ _ dX10_breakOf_32 (⟨hT, iv_w (iv_c (x := (-1 : Int32)) (k := (-1)) (by decide)) (by decide)⟩) hS
      · skip
        have f9 := i_nlt c9
        have hj2_L3_9l : iv j2_L3 0 100000 := iv_lel hj2_L3 hf6 (Int32.not_lt.mp c9) (by decide)
        have hv6_9r : iv v6 0 100000 := iv_ler hj2_L3_9l hf6 (Int32.not_lt.mp c9) (by decide)
        refine lv_aload_n hx hb dX10_breakOf_12 rfl (lv_at hl 0 rfl) ?_
        refine lv_iload_n hx hb dX10_breakOf_13 rfl (lv_at hl 1 rfl) ?_
        refine lv_iload_n hx hb dX10_breakOf_14 rfl (lv_at hl 2 rfl) ?_
        refine lv_iload_n hx hb dX10_breakOf_15 rfl (lv_at hl 3 rfl) ?_
        refine lv_iload_n hx hb dX10_breakOf_16 rfl (lv_at hl 2 rfl) ?_
        refine ti_calli (va_runV (As := [.int x1, .int x2, .int j2_L3, .int x2]) (rest := []) ⟨hx, hb, hml, hown, hts⟩ (t_X10_losesBy l hT ha0 (iv_w hx1 (by decide)) (iv_w hx2 (by decide)) (iv_w hj2_L3_9l (by decide)) (iv_w hx2 (by decide)) hν3 hν5 hU) (cwV 4 hts (good_V kw_1058 kw_1059 kw_1060 kw_5 kw_1061) rfl rfl rfl (by decide +kernel) ⟨by rw [hR]; decide, by rw [hR]; decide⟩) (ti_preV hK hT ha0 rfl rfl) rfl rfl hl.1 rfl (lv_room (Nat.le_of_ble_eq_true rfl)) dX10_breakOf_17 ⟨Nat.zero_le _, Nat.zero_le _⟩) hS (pW_sub rfl) (fun v17 H locs hB hS _ hk17 => ?_)
        obtain ⟨hT, hv17⟩ := hB
        refine lv_if_eq (tgt := 25) hx hb dX10_breakOf_20 (by decide) (fun c20 => ?_) (fun c20 => ?_)
        · skip
          have f20 := i_eq c20
          have hv17_20l : iv v17 0 0 := iv_eql hv17 (iv_c (x := (0 : Int32)) (k := 0) (by decide)) c20 (by decide)
          obtain ⟨v25, e25⟩ : ∃ y : Int32, y = j2_L3 + 1 := ⟨_, rfl⟩
          have hv25 : iv v25 1 100001 := by rw [e25]; exact iv_w (iv_add hj2_L3_9l (iv_c (x := (1 : Int32)) (k := 1) (by decide)) (by decide)) (by decide)
          have s25 : v25.toInt = j2_L3.toInt + 1 := by rw [e25, iv_addE hj2_L3_9l (iv_c (x := (1 : Int32)) (k := 1) (by decide)) (by decide)]; rfl
          refine lv_iinc (v := v25) (lv' := [(3, .int v25), (0, .ref a0), (1, .int x1), (2, .int x2)]) hx hb dX10_breakOf_25 hl (k := 3) rfl (by rw [e25]; rfl) (by decide) rfl (fun ls hl => ?_)
          refine lv_goto (tgt := 2) hx hb dX10_breakOf_28 (by decide) ?_
          exact ih2 v25 _ _ _ (ms_up hms2 (by have := s25; omega) (iv_w (c := 1) (d := 100001) hv25 (by decide)).2) (iv_w hv25 (by decide)) hT hS (lv_sub hl [1, 2, 3, 0] rfl)
        · skip
          have f20 := i_ne c20
          have hv17_20l : iv v17 1 1 := iv_nel hv17 (iv_c (x := (0 : Int32)) (k := 0) (by decide)) c20 (by decide)
          refine lv_iload_n hx hb dX10_breakOf_23 rfl (lv_at hl 3 rfl) ?_
          exact ret _ _ _ _ _ dX10_breakOf_24 (⟨hT, iv_w hj2_L3_9l (by decide)⟩) hS
  refine lv_istore_n (lv' := [(3, .int (0 : Int32)), (0, .ref a0), (1, .int x1), (2, .int x2)]) hx hb dX10_breakOf_1 rfl hl (by decide) rfl (fun ls hl => ?_)
  exact J2 _ (0 : Int32) _ _ _ (Nat.lt_succ_self _) (iv_w (iv_c (x := (0 : Int32)) (k := 0) (by decide)) (by decide)) hT hS (lv_sub hl [1, 2, 3, 0] rfl)
set_option maxHeartbeats 4000000 in
set_option maxRecDepth 100000 in
theorem t_X10_breaks (l : Launch) {D : va_G} {c0 : Nat → ClassId} {Y : Nat → Option Nat} {ν : Nat → Nat} {H : Heap} (hT : TI D vwCl (tysOf c0) (RTg ν) Y H) {a0 : Nat} (ha0 : Y a0 = some 10) {x1 : Int32} (hx1 : iv x1 (-2147483648) 2147483647) {x2 : Int32} (hx2 : iv x2 (-2147483648) 2147483647) (hν3 : ν 3 = 0) (hν5 : ν 5 = 0) (hU : uq Y) : Met l yX10_breaks (wz yX10_breaks cX10_breaks 3 (some .int)) { frames := 8, cells := 0, slots := 0, locals := 194 } (TP D vwCl (tysOf c0) H [.ref a0, .int x1, .int x2]) (TQi (fun x H' => TI D vwCl (tysOf c0) (RTg ν) Y H' ∧ iv x (-2) 100000) Y [10, 30, 41, 42]) 0 0 (pW Y [10, 30, 41, 42]) := by
  refine Met.ofW (cc := cX10_breaks) (maxL := 3) (ret := (some .int)) (by decide) rfl ?_
  intro p e s m args below meth c s₁ B hml hv
  obtain ⟨rfl, rfl, hK⟩ := hv
  have hx := B.exec
  have hb := B.bytes
  have hr := B.returns
  have hts : ∀ w ∈ wq, w.before _ s = true := fun w h => atoms_spec (ws := wz yX10_breaks cX10_breaks 3 (some .int)) B.pre w (List.mem_cons_of_mem _ h)
  have hown : s.vm.findClass RX10 = some m.cls := findClass_of_methodNamed B.named
  have hlocks := B.notSynchronized
  obtain ⟨R, hR⟩ : ∃ R : Room, R = ({ frames := 8, cells := 0, slots := 0, locals := 194 } : Room) := ⟨_, rfl⟩
  rw [show (headSpec (wz yX10_breaks cX10_breaks 3 (some .int)) { frames := 8, cells := 0, slots := 0, locals := 194 }).room = R from hR.symm]
  refine ti_mi hx hb hr hlocks (fun Q ret => ?_)
  have hl := lv_entry [.ref a0, .int x1, .int x2] (n := 3) (Nat.le_of_ble_eq_true rfl)
  rw [lg_entry_eq]
  generalize (lg_sl [.ref a0, .int x1, .int x2] ++ List.replicate (3 - (lg_sl [.ref a0, .int x1, .int x2]).length) Slot.unset).toArray = ls at hl ⊢
  have hl : lv_has ls 3 [(0, .ref a0), (1, .int x1), (2, .int x2)] := hl
  refine ti_gen (P := fun H => TI D vwCl (tysOf c0) (RTg ν) Y H) (Y := Y) (ws := [10, 30, 41, 42]) hT (fun H locs hT hS => ?_)
  refine lv_aload_n hx hb dX10_breaks_0 rfl (lv_at hl 0 rfl) ?_
  refine lv_iload_n hx hb dX10_breaks_1 rfl (lv_at hl 1 rfl) ?_
  refine lv_iload_n hx hb dX10_breaks_2 rfl (lv_at hl 2 rfl) ?_
  refine ti_calli (va_runV (As := [.int x1, .int x2]) (rest := []) ⟨hx, hb, hml, hown, hts⟩ (t_X10_areTwo l hT ha0 (iv_w hx1 (by decide)) (iv_w hx2 (by decide)) hU) (cwV 2 hts (good_V kw_545 kw_546 kw_547 kw_5 kw_548) rfl rfl rfl (by decide +kernel) ⟨by rw [hR]; decide, by rw [hR]; decide⟩) (ti_preV hK hT ha0 rfl rfl) rfl rfl hl.1 rfl (lv_room (Nat.le_of_ble_eq_true rfl)) dX10_breaks_3 ⟨Nat.zero_le _, Nat.zero_le _⟩) hS (pW_sub rfl) (fun v3 H1 locs hB hS _ hk3 => ?_)
  obtain ⟨hH, hv3, hp3⟩ := hB
  rw [hH] at hS ⊢
  refine lv_if_eq (tgt := 18) hx hb dX10_breaks_6 (by decide) (fun c6 => ?_) (fun c6 => ?_)
  · skip
    have kl0 : (0 : Int32).toInt = 0 := by decide
    have f6 := i_eq c6
    have hv3_6l : iv v3 0 0 := iv_eql hv3 (iv_c (x := (0 : Int32)) (k := 0) (by decide)) c6 (by decide)
    refine lv_bipush (v := (-2)) hx hb dX10_breaks_18 (by decide) ?_
    exact ret _ _ _ _ _ dX10_breaks_20 (⟨hT, iv_w (iv_c (x := (-2 : Int32)) (k := (-2)) (by decide)) (by decide)⟩) hS
  · skip
    have kl0 : (0 : Int32).toInt = 0 := by decide
    have f6 := i_ne c6
    have hv3_6l : iv v3 1 1 := iv_nel hv3 (iv_c (x := (0 : Int32)) (k := 0) (by decide)) c6 (by decide)
    have hx1_6p : iv x1 0 7 := by have b0a := (hx1).1; have b0b := (hx1).2; exact ⟨by omega, by omega⟩
    have hx2_6p : iv x2 0 7 := by have b0a := (hx2).1; have b0b := (hx2).2; exact ⟨by omega, by omega⟩
    refine lv_aload_n hx hb dX10_breaks_9 rfl (lv_at hl 0 rfl) ?_
    refine lv_iload_n hx hb dX10_breaks_10 rfl (lv_at hl 1 rfl) ?_
    refine lv_iload_n hx hb dX10_breaks_11 rfl (lv_at hl 2 rfl) ?_
    refine ti_calli (va_runV (As := [.int x1, .int x2]) (rest := []) ⟨hx, hb, hml, hown, hts⟩ (t_X10_breakOf l hT ha0 (iv_w hx1_6p (by decide)) (iv_w hx2_6p (by decide)) hν3 hν5 hU) (cwV 2 hts (good_V kw_1251 kw_1252 kw_1253 kw_5 kw_1254) rfl rfl rfl (by decide +kernel) ⟨by rw [hR]; decide, by rw [hR]; decide⟩) (ti_preV hK hT ha0 rfl rfl) rfl rfl hl.1 rfl (lv_room (Nat.le_of_ble_eq_true rfl)) dX10_breaks_12 ⟨Nat.zero_le _, Nat.zero_le _⟩) hS (pW_sub rfl) (fun v12 H locs hB hS _ hk12 => ?_)
    obtain ⟨hT, hv12⟩ := hB
    refine lv_goto (tgt := 20) hx hb dX10_breaks_15 (by decide) ?_
    exact ret _ _ _ _ _ dX10_breaks_20 (⟨hT, iv_w hv12 (by decide)⟩) hS
set_option maxHeartbeats 4000000 in
set_option maxRecDepth 100000 in
theorem t_X10_third (l : Launch) {D : va_G} {c0 : Nat → ClassId} {Y : Nat → Option Nat} {ν : Nat → Nat} {H : Heap} (hT : TI D vwCl (tysOf c0) (RTg ν) Y H) {a0 : Nat} (ha0 : Y a0 = some 10) {x1 : Int32} (hx1 : iv x1 (-2147483648) 2147483647) (hν3 : ν 3 = 0) (hν5 : ν 5 = 0) (hU : uq Y) : Met l yX10_third (wz yX10_third cX10_third 5 (some .int)) { frames := 8, cells := 0, slots := 0, locals := 194 } (TP D vwCl (tysOf c0) H [.ref a0, .int x1]) (TQi (fun x H' => TI D vwCl (tysOf c0) (RTg ν) Y H' ∧ iv x (-2) 100000) Y [10, 30, 41, 42]) 0 0 (pW Y [10, 30, 41, 42]) := by
  refine Met.ofW (cc := cX10_third) (maxL := 5) (ret := (some .int)) (by decide) rfl ?_
  intro p e s m args below meth c s₁ B hml hv
  obtain ⟨rfl, rfl, hK⟩ := hv
  have hx := B.exec
  have hb := B.bytes
  have hr := B.returns
  have hts : ∀ w ∈ wq, w.before _ s = true := fun w h => atoms_spec (ws := wz yX10_third cX10_third 5 (some .int)) B.pre w (List.mem_cons_of_mem _ h)
  have hown : s.vm.findClass RX10 = some m.cls := findClass_of_methodNamed B.named
  have hlocks := B.notSynchronized
  obtain ⟨R, hR⟩ : ∃ R : Room, R = ({ frames := 8, cells := 0, slots := 0, locals := 194 } : Room) := ⟨_, rfl⟩
  rw [show (headSpec (wz yX10_third cX10_third 5 (some .int)) { frames := 8, cells := 0, slots := 0, locals := 194 }).room = R from hR.symm]
  refine ti_mi hx hb hr hlocks (fun Q ret => ?_)
  have hl := lv_entry [.ref a0, .int x1] (n := 5) (Nat.le_of_ble_eq_true rfl)
  rw [lg_entry_eq]
  generalize (lg_sl [.ref a0, .int x1] ++ List.replicate (5 - (lg_sl [.ref a0, .int x1]).length) Slot.unset).toArray = ls at hl ⊢
  have hl : lv_has ls 5 [(0, .ref a0), (1, .int x1)] := hl
  refine ti_gen (P := fun H => TI D vwCl (tysOf c0) (RTg ν) Y H) (Y := Y) (ws := [10, 30, 41, 42]) hT (fun H locs hT hS => ?_)
  refine lv_aload_n hx hb dX10_third_0 rfl (lv_at hl 0 rfl) ?_
  refine lv_iload_n hx hb dX10_third_1 rfl (lv_at hl 1 rfl) ?_
  refine ti_calli (va_runV (As := [.int x1]) (rest := []) ⟨hx, hb, hml, hown, hts⟩ (t_X10_isPerson l hT ha0 (iv_w hx1 (by decide)) hU) (cwV 1 hts (good_V kw_486 kw_487 kw_488 kw_5 kw_489) rfl rfl rfl (by decide +kernel) ⟨by rw [hR]; decide, by rw [hR]; decide⟩) (ti_preV hK hT ha0 rfl rfl) rfl rfl hl.1 rfl (lv_room (Nat.le_of_ble_eq_true rfl)) dX10_third_2 ⟨Nat.zero_le _, Nat.zero_le _⟩) hS (pW_sub rfl) (fun v2 H1 locs hB hS _ hk2 => ?_)
  obtain ⟨hH, hv2, hp2⟩ := hB
  rw [hH] at hS ⊢
  refine lv_if_ne (tgt := 11) hx hb dX10_third_5 (by decide) (fun c5 => ?_) (fun c5 => ?_)
  · skip
    have kl0 : (0 : Int32).toInt = 0 := by decide
    have f5 := i_ne c5
    have hv2_5l : iv v2 1 1 := iv_nel hv2 (iv_c (x := (0 : Int32)) (k := 0) (by decide)) c5 (by decide)
    have hx1_5p : iv x1 0 7 := by have b0a := (hx1).1; have b0b := (hx1).2; exact ⟨by omega, by omega⟩
    refine lv_iconst (v := (-1)) hx hb dX10_third_11 (by decide) ?_
    refine lv_istore_n (lv' := [(2, .int (-1 : Int32)), (0, .ref a0), (1, .int x1)]) hx hb dX10_third_12 rfl hl (by decide) rfl (fun ls hl => ?_)
    refine lv_iconst (v := 0) hx hb dX10_third_13 (by decide) ?_
    have J15 : ∀ (n : Nat) (j15_L2 : Int32) (j15_L3 : Int32) (H : Heap) (locs : List Loc) (ls : Array Slot), (8 - j15_L3.toInt).toNat < n → iv j15_L2 (-1) 100000 → iv j15_L3 0 8 → TI D vwCl (tysOf c0) (RTg ν) Y H → va_S (pW Y [10, 30, 41, 42]) s.heap H locs → lv_has ls 5 [(0, .ref a0), (1, .int x1), (2, .int j15_L2), (3, .int j15_L3)] → W p l e R s m ([.ref a0, .int x1] : List Value).toArray below meth c H locs 0 0 Q (F0 m 15 ls []) := by
      intro n
      induction n with
      | zero => intro j15_L2 j15_L3 H locs ls hms; exact absurd hms (Nat.not_lt_zero _)
      | succ n ih15 =>
        intro j15_L2 j15_L3 H locs ls hms15 hj15_L2 hj15_L3 hT hS hl
        refine lv_iload_n hx hb dX10_third_15 rfl (lv_at hl 3 rfl) ?_
        refine lv_aload_n hx hb dX10_third_16 rfl (lv_at hl 0 rfl) ?_
        refine ti_calli (va_runV (As := []) (rest := [.int j15_L3]) ⟨hx, hb, hml, hown, hts⟩ (t_X10_people l hT ha0 hU) (cwV 0 hts (good_V kw_605 kw_606 kw_607 kw_5 kw_608) rfl rfl rfl (by decide +kernel) ⟨by rw [hR]; decide, by rw [hR]; decide⟩) (ti_preV hK hT ha0 rfl rfl) rfl rfl hl.1 rfl (lv_room (Nat.le_of_ble_eq_true rfl)) dX10_third_17 ⟨Nat.zero_le _, Nat.zero_le _⟩) hS (pW_sub rfl) (fun v17 H1 locs hB hS _ hk17 => ?_)
        obtain ⟨hH, hv17, hp17⟩ := hB
        rw [hH] at hS ⊢
        refine lv_icmp_ge (tgt := 70) hx hb dX10_third_20 (by decide) (fun c20 => ?_) (fun c20 => ?_)
        · skip
          have f20 := i_le c20
          refine lv_iload_n hx hb dX10_third_70 rfl (lv_at hl 2 rfl) ?_
          exact ret _ _ _ _ _ dX10_third_71 (⟨hT, iv_w hj15_L2 (by decide)⟩) hS
        · skip
          have f20 := i_nle c20
          have hj15_L3_20l : iv j15_L3 0 7 := iv_ltl hj15_L3 hv17 (Int32.not_le.mp c20) (by decide)
          have hv17_20r : iv v17 1 8 := iv_ltr hj15_L3_20l hv17 (Int32.not_le.mp c20) (by decide)
          refine lv_iload_n hx hb dX10_third_23 rfl (lv_at hl 3 rfl) ?_
          refine lv_iload_n hx hb dX10_third_24 rfl (lv_at hl 1 rfl) ?_
          have J38 : ∀ (j38_S0 : Int32) (H : Heap) (locs : List Loc) (ls : Array Slot), iv j38_S0 (-1) 100000 → TI D vwCl (tysOf c0) (RTg ν) Y H → va_S (pW Y [10, 30, 41, 42]) s.heap H locs → lv_has ls 5 [(0, .ref a0), (1, .int x1), (2, .int j15_L2), (3, .int j15_L3)] → W p l e R s m ([.ref a0, .int x1] : List Value).toArray below meth c H locs 0 0 Q (F0 m 38 ls [.int j38_S0]) := by
            intro j38_S0 H locs ls hj38_S0 hT hS hl
            refine lv_istore (lv' := [(4, .int j38_S0), (0, .ref a0), (1, .int x1), (2, .int j15_L2), (3, .int j15_L3)]) hx hb dX10_third_38 hl (by decide) rfl (fun ls hl => ?_)
            refine lv_iload hx hb dX10_third_40 (lv_at hl 0 rfl) ?_
            refine lv_iconst (v := (-1)) hx hb dX10_third_42 (by decide) ?_
            have J63 : ∀ (j63_S0 : Int32) (H : Heap) (locs : List Loc) (ls : Array Slot), iv j63_S0 (-1) 100000 → TI D vwCl (tysOf c0) (RTg ν) Y H → va_S (pW Y [10, 30, 41, 42]) s.heap H locs → lv_has ls 5 [(0, .ref a0), (1, .int x1), (2, .int j15_L2), (3, .int j15_L3), (4, .int j38_S0)] → W p l e R s m ([.ref a0, .int x1] : List Value).toArray below meth c H locs 0 0 Q (F0 m 63 ls [.int j63_S0]) := by
              intro j63_S0 H locs ls hj63_S0 hT hS hl
              refine lv_istore_n (lv' := [(2, .int j63_S0), (0, .ref a0), (1, .int x1), (3, .int j15_L3), (4, .int j38_S0)]) hx hb dX10_third_63 rfl hl (by decide) rfl (fun ls hl => ?_)
              obtain ⟨v64, e64⟩ : ∃ y : Int32, y = j15_L3 + 1 := ⟨_, rfl⟩
              have hv64 : iv v64 1 8 := by rw [e64]; exact iv_w (iv_add hj15_L3_20l (iv_c (x := (1 : Int32)) (k := 1) (by decide)) (by decide)) (by decide)
              have s64 : v64.toInt = j15_L3.toInt + 1 := by rw [e64, iv_addE hj15_L3_20l (iv_c (x := (1 : Int32)) (k := 1) (by decide)) (by decide)]; rfl
              refine lv_iinc (v := v64) (lv' := [(3, .int v64), (2, .int j63_S0), (0, .ref a0), (1, .int x1), (4, .int j38_S0)]) hx hb dX10_third_64 hl (k := 3) rfl (by rw [e64]; rfl) (by decide) rfl (fun ls hl => ?_)
              refine lv_goto (tgt := 15) hx hb dX10_third_67 (by decide) ?_
              exact ih15 j63_S0 v64 _ _ _ (ms_up hms15 (by have := s64; omega) (iv_w (c := 1) (d := 8) hv64 (by decide)).2) (iv_w hj63_S0 (by decide)) (iv_w hv64 (by decide)) hT hS (lv_sub hl [2, 3, 1, 0] rfl)
            have J57 : ∀  (H : Heap) (locs : List Loc) (ls : Array Slot), TI D vwCl (tysOf c0) (RTg ν) Y H → va_S (pW Y [10, 30, 41, 42]) s.heap H locs → lv_has ls 5 [(0, .ref a0), (1, .int x1), (2, .int j15_L2), (3, .int j15_L3), (4, .int j38_S0)] → W p l e R s m ([.ref a0, .int x1] : List Value).toArray below meth c H locs 0 0 Q (F0 m 57 ls []) := by
              intro  H locs ls  hT hS hl
              refine lv_iload_n hx hb dX10_third_57 rfl (lv_at hl 2 rfl) ?_
              refine lv_goto (tgt := 63) hx hb dX10_third_58 (by decide) ?_
              exact J63 j15_L2 _ _ _  (iv_w hj15_L2 (by decide)) hT hS (lv_sub hl [0, 1, 2, 3, 4] rfl)
            refine lv_icmp_eq (tgt := 57) hx hb dX10_third_43 (by decide) (fun c43 => ?_) (fun c43 => ?_)
            · skip
              have klm1 : (-1 : Int32).toInt = (-1) := by decide
              have f43 := i_eq c43
              have hj38_S0_43l : iv j38_S0 (-1) (-1) := iv_eql hj38_S0 (iv_c (x := (-1 : Int32)) (k := (-1)) (by decide)) c43 (by decide)
              exact J57  _ _ _   hT hS (lv_sub hl [1, 2, 3, 4, 0] rfl)
            · skip
              have klm1 : (-1 : Int32).toInt = (-1) := by decide
              have f43 := i_ne c43
              have hj38_S0_43l : iv j38_S0 0 100000 := iv_nel hj38_S0 (iv_c (x := (-1 : Int32)) (k := (-1)) (by decide)) c43 (by decide)
              refine lv_iload_n hx hb dX10_third_46 rfl (lv_at hl 3 rfl) ?_
              refine lv_iconst (v := (-1)) hx hb dX10_third_47 (by decide) ?_
              have J61 : ∀  (H : Heap) (locs : List Loc) (ls : Array Slot), TI D vwCl (tysOf c0) (RTg ν) Y H → va_S (pW Y [10, 30, 41, 42]) s.heap H locs → lv_has ls 5 [(0, .ref a0), (1, .int x1), (2, .int j15_L2), (3, .int j15_L3), (4, .int j38_S0)] → W p l e R s m ([.ref a0, .int x1] : List Value).toArray below meth c H locs 0 0 Q (F0 m 61 ls []) := by
                intro  H locs ls  hT hS hl
                refine lv_iload hx hb dX10_third_61 (lv_at hl 4 rfl) ?_
                exact J63 j38_S0 _ _ _  (iv_w hj38_S0_43l (by decide)) hT hS (lv_sub hl [0, 1, 2, 3, 4] rfl)
              refine lv_icmp_eq (tgt := 61) hx hb dX10_third_48 (by decide) (fun c48 => ?_) (fun c48 => ?_)
              · skip
                have f48 := i_eq c48
                have hj15_L2_48l : iv j15_L2 (-1) (-1) := iv_eql hj15_L2 (iv_c (x := (-1 : Int32)) (k := (-1)) (by decide)) c48 (by decide)
                exact J61  _ _ _   hT hS (lv_sub hl [1, 2, 3, 4, 0] rfl)
              · skip
                have f48 := i_ne c48
                have hj15_L2_48l : iv j15_L2 0 100000 := iv_nel hj15_L2 (iv_c (x := (-1 : Int32)) (k := (-1)) (by decide)) c48 (by decide)
                refine lv_iload hx hb dX10_third_51 (lv_at hl 0 rfl) ?_
                refine lv_iload_n hx hb dX10_third_53 rfl (lv_at hl 3 rfl) ?_
                refine lv_icmp_lt (tgt := 61) hx hb dX10_third_54 (by decide) (fun c54 => ?_) (fun c54 => ?_)
                · skip
                  have f54 := i_lt c54
                  have hj38_S0_54l : iv j38_S0 0 99999 := iv_ltl hj38_S0_43l hj15_L2_48l c54 (by decide)
                  have hj15_L2_54r : iv j15_L2 1 100000 := iv_ltr hj38_S0_54l hj15_L2_48l c54 (by decide)
                  exact J61  _ _ _   hT hS (lv_sub hl [1, 2, 3, 4, 0] rfl)
                · skip
                  have f54 := i_nlt c54
                  exact J57  _ _ _   hT hS (lv_sub hl [1, 2, 3, 4, 0] rfl)
          refine lv_icmp_ne (tgt := 32) hx hb dX10_third_25 (by decide) (fun c25 => ?_) (fun c25 => ?_)
          · skip
            have f25 := i_ne c25
            refine lv_aload_n hx hb dX10_third_32 rfl (lv_at hl 0 rfl) ?_
            refine lv_iload_n hx hb dX10_third_33 rfl (lv_at hl 1 rfl) ?_
            refine lv_iload_n hx hb dX10_third_34 rfl (lv_at hl 3 rfl) ?_
            refine ti_calli (va_runV (As := [.int x1, .int j15_L3]) (rest := []) ⟨hx, hb, hml, hown, hts⟩ (t_X10_breakOf l hT ha0 (iv_w hx1_5p (by decide)) (iv_w hj15_L3_20l (by decide)) hν3 hν5 hU) (cwV 2 hts (good_V kw_1251 kw_1252 kw_1253 kw_5 kw_1254) rfl rfl rfl (by decide +kernel) ⟨by rw [hR]; decide, by rw [hR]; decide⟩) (ti_preV hK hT ha0 rfl rfl) rfl rfl hl.1 rfl (lv_room (Nat.le_of_ble_eq_true rfl)) dX10_third_35 ⟨Nat.zero_le _, Nat.zero_le _⟩) hS (pW_sub rfl) (fun v35 H locs hB hS _ hk35 => ?_)
            obtain ⟨hT, hv35⟩ := hB
            exact J38 v35 _ _ _  (iv_w hv35 (by decide)) hT hS (lv_sub hl [0, 1, 2, 3] rfl)
          · skip
            have f25 := i_eq c25
            refine lv_iconst (v := (-1)) hx hb dX10_third_28 (by decide) ?_
            refine lv_goto (tgt := 38) hx hb dX10_third_29 (by decide) ?_
            exact J38 (-1 : Int32) _ _ _  (iv_w (iv_c (x := (-1 : Int32)) (k := (-1)) (by decide)) (by decide)) hT hS (lv_sub hl [0, 1, 2, 3] rfl)
    refine lv_istore_n (lv' := [(3, .int (0 : Int32)), (2, .int (-1 : Int32)), (0, .ref a0), (1, .int x1)]) hx hb dX10_third_14 rfl hl (by decide) rfl (fun ls hl => ?_)
    exact J15 _ (-1 : Int32) (0 : Int32) _ _ _ (Nat.lt_succ_self _) (iv_w (iv_c (x := (-1 : Int32)) (k := (-1)) (by decide)) (by decide)) (iv_w (iv_c (x := (0 : Int32)) (k := 0) (by decide)) (by decide)) hT hS (lv_sub hl [2, 3, 1, 0] rfl)
  · skip
    have kl0 : (0 : Int32).toInt = 0 := by decide
    have f5 := i_eq c5
    have hv2_5l : iv v2 0 0 := iv_eql hv2 (iv_c (x := (0 : Int32)) (k := 0) (by decide)) c5 (by decide)
    refine lv_bipush (v := (-2)) hx hb dX10_third_8 (by decide) ?_
    exact ret _ _ _ _ _ dX10_third_10 (⟨hT, iv_w (iv_c (x := (-2 : Int32)) (k := (-2)) (by decide)) (by decide)⟩) hS
set_option maxHeartbeats 4000000 in
set_option maxRecDepth 100000 in
theorem t_X10_isRestless (l : Launch) {D : va_G} {c0 : Nat → ClassId} {Y : Nat → Option Nat} {ν : Nat → Nat} {H : Heap} (hT : TI D vwCl (tysOf c0) (RTg ν) Y H) {a0 : Nat} (ha0 : Y a0 = some 10) {x1 : Int32} (hx1 : iv x1 0 7) (hU : uq Y) : Met l yX10_isRestless (wz yX10_isRestless cX10_isRestless 3 (some .boolean)) { frames := 7, cells := 0, slots := 0, locals := 218 } (TP D vwCl (tysOf c0) H [.ref a0, .int x1]) (TQi (fun x H' => TI D vwCl (tysOf c0) (RTg ν) Y H' ∧ iv x 0 1) Y [10, 29, 43]) 0 0 (pW Y [10, 29, 43]) := by
  refine Met.ofW (cc := cX10_isRestless) (maxL := 3) (ret := (some .boolean)) (by decide) rfl ?_
  intro p e s m args below meth c s₁ B hml hv
  obtain ⟨rfl, rfl, hK⟩ := hv
  have hx := B.exec
  have hb := B.bytes
  have hr := B.returns
  have hts : ∀ w ∈ wq, w.before _ s = true := fun w h => atoms_spec (ws := wz yX10_isRestless cX10_isRestless 3 (some .boolean)) B.pre w (List.mem_cons_of_mem _ h)
  have hown : s.vm.findClass RX10 = some m.cls := findClass_of_methodNamed B.named
  have hlocks := B.notSynchronized
  obtain ⟨R, hR⟩ : ∃ R : Room, R = ({ frames := 7, cells := 0, slots := 0, locals := 218 } : Room) := ⟨_, rfl⟩
  rw [show (headSpec (wz yX10_isRestless cX10_isRestless 3 (some .boolean)) { frames := 7, cells := 0, slots := 0, locals := 218 }).room = R from hR.symm]
  refine ti_mz hx hb hr hlocks (fun Q ret => ?_)
  have hl := lv_entry [.ref a0, .int x1] (n := 3) (Nat.le_of_ble_eq_true rfl)
  rw [lg_entry_eq]
  generalize (lg_sl [.ref a0, .int x1] ++ List.replicate (3 - (lg_sl [.ref a0, .int x1]).length) Slot.unset).toArray = ls at hl ⊢
  have hl : lv_has ls 3 [(0, .ref a0), (1, .int x1)] := hl
  refine ti_gen (P := fun H => TI D vwCl (tysOf c0) (RTg ν) Y H) (Y := Y) (ws := [10, 29, 43]) hT (fun H locs hT hS => ?_)
  refine lv_aload_n hx hb dX10_isRestless_0 rfl (lv_at hl 0 rfl) ?_
  refine lv_iload_n hx hb dX10_isRestless_1 rfl (lv_at hl 1 rfl) ?_
  refine ti_callv (va_runV (As := [.int x1]) (rest := []) ⟨hx, hb, hml, hown, hts⟩ (t_X10_guesses l hT ha0 (iv_w hx1 (by decide)) hU) (cwV 1 hts (good_V kw_952 kw_953 kw_954 kw_5 kw_955) rfl rfl rfl (by decide +kernel) ⟨by rw [hR]; decide, by rw [hR]; decide⟩) (ti_preV hK hT ha0 rfl rfl) rfl rfl hl.1 rfl (lv_room (Nat.le_of_ble_eq_true rfl)) dX10_isRestless_2 ⟨Nat.zero_le _, Nat.zero_le _⟩) hS (pW_sub rfl) (fun H locs hB hS _ hk2 => ?_)
  have hT := hB
  refine lv_aload_n hx hb dX10_isRestless_5 rfl (lv_at hl 0 rfl) ?_
  refine lv_iload_n hx hb dX10_isRestless_6 rfl (lv_at hl 1 rfl) ?_
  refine lv_iconst (v := 0) hx hb dX10_isRestless_7 (by decide) ?_
  refine lv_iconst (v := 0) hx hb dX10_isRestless_8 (by decide) ?_
  refine lv_iconst (v := 0) hx hb dX10_isRestless_9 (by decide) ?_
  refine lv_iconst (v := (-1)) hx hb dX10_isRestless_10 (by decide) ?_
  have kl0 : (0 : Int32).toInt = 0 := by decide
  have klm1 : (-1 : Int32).toInt = (-1) := by decide
  refine ti_calli (va_runV (As := [.int x1, .int (0 : Int32), .int (0 : Int32), .int (0 : Int32), .int (-1 : Int32)]) (rest := []) ⟨hx, hb, hml, hown, hts⟩ (t_X10_valueOf l hT ha0 (iv_w hx1 (by decide)) (iv_w (iv_c (x := (0 : Int32)) (k := 0) (by decide)) (by decide)) (iv_w (iv_c (x := (0 : Int32)) (k := 0) (by decide)) (by decide)) (iv_w (iv_c (x := (0 : Int32)) (k := 0) (by decide)) (by decide)) (iv_w (iv_c (x := (-1 : Int32)) (k := (-1)) (by decide)) (by decide)) (fun h9 => by omega) hU) (cwV 5 hts (good_V kw_965 kw_966 kw_967 kw_5 kw_968) rfl rfl rfl (by decide +kernel) ⟨by rw [hR]; decide, by rw [hR]; decide⟩) (ti_preV hK hT ha0 rfl rfl) rfl rfl hl.1 rfl (lv_room (Nat.le_of_ble_eq_true rfl)) dX10_isRestless_11 ⟨Nat.zero_le _, Nat.zero_le _⟩) hS (pW_sub rfl) (fun v11 H locs hB hS _ hk11 => ?_)
  have hT := hB
  refine lv_istore_n (lv' := [(2, .int v11), (0, .ref a0), (1, .int x1)]) hx hb dX10_isRestless_14 rfl hl (by decide) rfl (fun ls hl => ?_)
  refine lv_aload_n hx hb dX10_isRestless_15 rfl (lv_at hl 1 rfl) ?_
  refine lv_iload_n hx hb dX10_isRestless_16 rfl (lv_at hl 2 rfl) ?_
  refine lv_iconst (v := 0) hx hb dX10_isRestless_17 (by decide) ?_
  refine ti_callv (va_runV (As := [.int x1, .int (0 : Int32)]) (rest := []) ⟨hx, hb, hml, hown, hts⟩ (t_X10_findsBest l hT ha0 (iv_w hx1 (by decide)) (iv_w (iv_c (x := (0 : Int32)) (k := 0) (by decide)) (by decide)) hU) (cwV 2 hts (good_V kw_956 kw_957 kw_958 kw_5 kw_959) rfl rfl rfl (by decide +kernel) ⟨by rw [hR]; decide, by rw [hR]; decide⟩) (ti_preV hK hT ha0 rfl rfl) rfl rfl hl.1 rfl (lv_room (Nat.le_of_ble_eq_true rfl)) dX10_isRestless_18 ⟨Nat.zero_le _, Nat.zero_le _⟩) hS (pW_sub rfl) (fun H locs hB hS _ hk18 => ?_)
  have hT := hB
  refine lv_aload_n hx hb dX10_isRestless_21 rfl (lv_at hl 1 rfl) ?_
  refine ti_getr hx hb hts inlX10 hown hK hT ha0 rfl rfl rfl 24 (by decide) (hts _ kw_142) (fun _ h9 => h9) rfl dX10_isRestless_22 (fun v22 hv22 hm22 => ?_)
  refine lv_iconst (v := 0) hx hb dX10_isRestless_25 (by decide) ?_
  refine ti_iald (lo := (-2147483648)) (hi := 2147483647) hx hb (aT0 hK) hT hv22 rfl (iv_c (x := (0 : Int32)) (k := 0) (by decide)) (by decide) (one_j 0 rfl rfl (by decide) (by decide)) dX10_isRestless_26 (fun v26 hv26 hm26 => ?_)
  refine lv_iload_n hx hb dX10_isRestless_27 rfl (lv_at hl 0 rfl) ?_
  refine lv_icmp_le (tgt := 35) hx hb dX10_isRestless_28 (by decide) (fun c28 => ?_) (fun c28 => ?_)
  · skip
    have f28 := i_le c28
    refine lv_iconst (v := 0) hx hb dX10_isRestless_35 (by decide) ?_
    exact ret _ _ _ _ _ dX10_isRestless_36 (iv_w (iv_c (x := (0 : Int32)) (k := 0) (by decide)) (by decide)) (⟨hT, iv_w (iv_c (x := (0 : Int32)) (k := 0) (by decide)) (by decide)⟩) hS
  · skip
    have f28 := i_nle c28
    have hv11_28l : iv v11 (-2147483648) 2147483646 := iv_ltl (iv_top v11) hv26 (Int32.not_le.mp c28) (by decide)
    have hv26_28r : iv v26 (-2147483647) 2147483647 := iv_ltr hv11_28l hv26 (Int32.not_le.mp c28) (by decide)
    refine lv_iconst (v := 1) hx hb dX10_isRestless_31 (by decide) ?_
    refine lv_goto (tgt := 36) hx hb dX10_isRestless_32 (by decide) ?_
    exact ret _ _ _ _ _ dX10_isRestless_36 (iv_w (iv_c (x := (1 : Int32)) (k := 1) (by decide)) (by decide)) (⟨hT, iv_w (iv_c (x := (1 : Int32)) (k := 1) (by decide)) (by decide)⟩) hS
set_option maxHeartbeats 4000000 in
set_option maxRecDepth 100000 in
theorem t_X10_restlessSet (l : Launch) {D : va_G} {c0 : Nat → ClassId} {Y : Nat → Option Nat} {ν : Nat → Nat} {H : Heap} (hT : TI D vwCl (tysOf c0) (RTg ν) Y H) {a0 : Nat} (ha0 : Y a0 = some 10) (hU : uq Y) : Met l yX10_restlessSet (wz yX10_restlessSet cX10_restlessSet 3 (some .int)) { frames := 8, cells := 0, slots := 0, locals := 240 } (TP D vwCl (tysOf c0) H [.ref a0]) (TQi (fun x H' => TI D vwCl (tysOf c0) (RTg ν) Y H') Y [10, 29, 43]) 0 0 (pW Y [10, 29, 43]) := by
  refine Met.ofW (cc := cX10_restlessSet) (maxL := 3) (ret := (some .int)) (by decide) rfl ?_
  intro p e s m args below meth c s₁ B hml hv
  obtain ⟨rfl, rfl, hK⟩ := hv
  have hx := B.exec
  have hb := B.bytes
  have hr := B.returns
  have hts : ∀ w ∈ wq, w.before _ s = true := fun w h => atoms_spec (ws := wz yX10_restlessSet cX10_restlessSet 3 (some .int)) B.pre w (List.mem_cons_of_mem _ h)
  have hown : s.vm.findClass RX10 = some m.cls := findClass_of_methodNamed B.named
  have hlocks := B.notSynchronized
  obtain ⟨R, hR⟩ : ∃ R : Room, R = ({ frames := 8, cells := 0, slots := 0, locals := 240 } : Room) := ⟨_, rfl⟩
  rw [show (headSpec (wz yX10_restlessSet cX10_restlessSet 3 (some .int)) { frames := 8, cells := 0, slots := 0, locals := 240 }).room = R from hR.symm]
  refine ti_mi hx hb hr hlocks (fun Q ret => ?_)
  have hl := lv_entry [.ref a0] (n := 3) (Nat.le_of_ble_eq_true rfl)
  rw [lg_entry_eq]
  generalize (lg_sl [.ref a0] ++ List.replicate (3 - (lg_sl [.ref a0]).length) Slot.unset).toArray = ls at hl ⊢
  have hl : lv_has ls 3 [(0, .ref a0)] := hl
  refine ti_gen (P := fun H => TI D vwCl (tysOf c0) (RTg ν) Y H) (Y := Y) (ws := [10, 29, 43]) hT (fun H locs hT hS => ?_)
  refine lv_iconst (v := 0) hx hb dX10_restlessSet_0 (by decide) ?_
  refine lv_istore_n (lv' := [(1, .int (0 : Int32)), (0, .ref a0)]) hx hb dX10_restlessSet_1 rfl hl (by decide) rfl (fun ls hl => ?_)
  refine lv_iconst (v := 0) hx hb dX10_restlessSet_2 (by decide) ?_
  have J4 : ∀ (n : Nat) (j4_L1 : Int32) (j4_L2 : Int32) (H : Heap) (locs : List Loc) (ls : Array Slot), (8 - j4_L2.toInt).toNat < n → iv j4_L1 (-2147483648) 2147483647 → iv j4_L2 0 8 → TI D vwCl (tysOf c0) (RTg ν) Y H → va_S (pW Y [10, 29, 43]) s.heap H locs → lv_has ls 3 [(0, .ref a0), (1, .int j4_L1), (2, .int j4_L2)] → W p l e R s m ([.ref a0] : List Value).toArray below meth c H locs 0 0 Q (F0 m 4 ls []) := by
    intro n
    induction n with
    | zero => intro j4_L1 j4_L2 H locs ls hms; exact absurd hms (Nat.not_lt_zero _)
    | succ n ih4 =>
      intro j4_L1 j4_L2 H locs ls hms4 hj4_L1 hj4_L2 hT hS hl
      refine lv_iload_n hx hb dX10_restlessSet_4 rfl (lv_at hl 2 rfl) ?_
      refine lv_aload_n hx hb dX10_restlessSet_5 rfl (lv_at hl 0 rfl) ?_
      refine ti_calli (va_runV (As := []) (rest := [.int j4_L2]) ⟨hx, hb, hml, hown, hts⟩ (t_X10_people l hT ha0 hU) (cwV 0 hts (good_V kw_605 kw_606 kw_607 kw_5 kw_608) rfl rfl rfl (by decide +kernel) ⟨by rw [hR]; decide, by rw [hR]; decide⟩) (ti_preV hK hT ha0 rfl rfl) rfl rfl hl.1 rfl (lv_room (Nat.le_of_ble_eq_true rfl)) dX10_restlessSet_6 ⟨Nat.zero_le _, Nat.zero_le _⟩) hS (pW_sub rfl) (fun v6 H1 locs hB hS _ hk6 => ?_)
      obtain ⟨hH, hv6, hp6⟩ := hB
      rw [hH] at hS ⊢
      refine lv_icmp_ge (tgt := 36) hx hb dX10_restlessSet_9 (by decide) (fun c9 => ?_) (fun c9 => ?_)
      · skip
        have f9 := i_le c9
        refine lv_iload_n hx hb dX10_restlessSet_36 rfl (lv_at hl 1 rfl) ?_
        exact ret _ _ _ _ _ dX10_restlessSet_37 (hT) hS
      · skip
        have f9 := i_nle c9
        have hj4_L2_9l : iv j4_L2 0 7 := iv_ltl hj4_L2 hv6 (Int32.not_le.mp c9) (by decide)
        have hv6_9r : iv v6 1 8 := iv_ltr hj4_L2_9l hv6 (Int32.not_le.mp c9) (by decide)
        refine lv_iload_n hx hb dX10_restlessSet_12 rfl (lv_at hl 1 rfl) ?_
        refine lv_aload_n hx hb dX10_restlessSet_13 rfl (lv_at hl 0 rfl) ?_
        refine lv_iload_n hx hb dX10_restlessSet_14 rfl (lv_at hl 2 rfl) ?_
        refine ti_calli (va_runV (As := [.int j4_L2]) (rest := [.int j4_L1]) ⟨hx, hb, hml, hown, hts⟩ (t_X10_isRestless l hT ha0 (iv_w hj4_L2_9l (by decide)) hU) (cwV 1 hts (good_V kw_1093 kw_1094 kw_1095 kw_5 kw_1096) rfl rfl rfl (by decide +kernel) ⟨by rw [hR]; decide, by rw [hR]; decide⟩) (ti_preV hK hT ha0 rfl rfl) rfl rfl hl.1 rfl (lv_room (Nat.le_of_ble_eq_true rfl)) dX10_restlessSet_15 ⟨Nat.zero_le _, Nat.zero_le _⟩) hS (pW_sub rfl) (fun v15 H locs hB hS _ hk15 => ?_)
        obtain ⟨hT, hv15⟩ := hB
        have J28 : ∀ (j28_S1 : Int32) (H : Heap) (locs : List Loc) (ls : Array Slot), iv j28_S1 (-2147483648) 2147483647 → TI D vwCl (tysOf c0) (RTg ν) Y H → va_S (pW Y [10, 29, 43]) s.heap H locs → lv_has ls 3 [(0, .ref a0), (1, .int j4_L1), (2, .int j4_L2)] → W p l e R s m ([.ref a0] : List Value).toArray below meth c H locs 0 0 Q (F0 m 28 ls [.int j28_S1, .int j4_L1]) := by
          intro j28_S1 H locs ls hj28_S1 hT hS hl
          refine lv_ior hx hb dX10_restlessSet_28 ?_
          refine lv_topi (fun v28 e28 => ?_)
          have hv28 : iv v28 (-2147483648) 2147483647 := iv_top _
          refine lv_istore_n (lv' := [(1, .int v28), (0, .ref a0), (2, .int j4_L2)]) hx hb dX10_restlessSet_29 rfl hl (by decide) rfl (fun ls hl => ?_)
          obtain ⟨v30, e30⟩ : ∃ y : Int32, y = j4_L2 + 1 := ⟨_, rfl⟩
          have hv30 : iv v30 1 8 := by rw [e30]; exact iv_w (iv_add hj4_L2_9l (iv_c (x := (1 : Int32)) (k := 1) (by decide)) (by decide)) (by decide)
          have s30 : v30.toInt = j4_L2.toInt + 1 := by rw [e30, iv_addE hj4_L2_9l (iv_c (x := (1 : Int32)) (k := 1) (by decide)) (by decide)]; rfl
          refine lv_iinc (v := v30) (lv' := [(2, .int v30), (1, .int v28), (0, .ref a0)]) hx hb dX10_restlessSet_30 hl (k := 2) rfl (by rw [e30]; rfl) (by decide) rfl (fun ls hl => ?_)
          refine lv_goto (tgt := 4) hx hb dX10_restlessSet_33 (by decide) ?_
          exact ih4 v28 v30 _ _ _ (ms_up hms4 (by have := s30; omega) (iv_w (c := 1) (d := 8) hv30 (by decide)).2) (iv_w hv28 (by decide)) (iv_w hv30 (by decide)) hT hS (lv_sub hl [2, 1, 0] rfl)
        refine lv_if_eq (tgt := 27) hx hb dX10_restlessSet_18 (by decide) (fun c18 => ?_) (fun c18 => ?_)
        · skip
          have kl0 : (0 : Int32).toInt = 0 := by decide
          have f18 := i_eq c18
          have hv15_18l : iv v15 0 0 := iv_eql hv15 (iv_c (x := (0 : Int32)) (k := 0) (by decide)) c18 (by decide)
          refine lv_iconst (v := 0) hx hb dX10_restlessSet_27 (by decide) ?_
          exact J28 (0 : Int32) _ _ _  (iv_w (iv_c (x := (0 : Int32)) (k := 0) (by decide)) (by decide)) hT hS (lv_sub hl [0, 1, 2] rfl)
        · skip
          have kl0 : (0 : Int32).toInt = 0 := by decide
          have f18 := i_ne c18
          have hv15_18l : iv v15 1 1 := iv_nel hv15 (iv_c (x := (0 : Int32)) (k := 0) (by decide)) c18 (by decide)
          refine lv_iconst (v := 1) hx hb dX10_restlessSet_21 (by decide) ?_
          refine lv_iload_n hx hb dX10_restlessSet_22 rfl (lv_at hl 2 rfl) ?_
          refine lv_ishl hx hb dX10_restlessSet_23 ?_
          refine lv_topi (fun v23 e23 => ?_)
          have hv23 : iv v23 (-2147483648) 2147483647 := iv_top _
          refine lv_goto (tgt := 28) hx hb dX10_restlessSet_24 (by decide) ?_
          exact J28 v23 _ _ _  (iv_w hv23 (by decide)) hT hS (lv_sub hl [0, 1, 2] rfl)
  refine lv_istore_n (lv' := [(2, .int (0 : Int32)), (1, .int (0 : Int32)), (0, .ref a0)]) hx hb dX10_restlessSet_3 rfl hl (by decide) rfl (fun ls hl => ?_)
  exact J4 _ (0 : Int32) (0 : Int32) _ _ _ (Nat.lt_succ_self _) (iv_w (iv_c (x := (0 : Int32)) (k := 0) (by decide)) (by decide)) (iv_w (iv_c (x := (0 : Int32)) (k := 0) (by decide)) (by decide)) hT hS (lv_sub hl [2, 1, 0] rfl)
set_option maxHeartbeats 4000000 in
set_option maxRecDepth 100000 in
theorem t_X10_restless (l : Launch) {D : va_G} {c0 : Nat → ClassId} {Y : Nat → Option Nat} {ν : Nat → Nat} {H : Heap} (hT : TI D vwCl (tysOf c0) (RTg ν) Y H) {a0 : Nat} (ha0 : Y a0 = some 10) (hU : uq Y) : Met l yX10_restless (wz yX10_restless cX10_restless 1 (some .int)) { frames := 9, cells := 0, slots := 0, locals := 262 } (TP D vwCl (tysOf c0) H [.ref a0]) (TQi (fun x H' => TI D vwCl (tysOf c0) (RTg ν) Y H') Y [10, 29, 43]) 0 0 (pW Y [10, 29, 43]) := by
  refine Met.ofW (cc := cX10_restless) (maxL := 1) (ret := (some .int)) (by decide) rfl ?_
  intro p e s m args below meth c s₁ B hml hv
  obtain ⟨rfl, rfl, hK⟩ := hv
  have hx := B.exec
  have hb := B.bytes
  have hr := B.returns
  have hts : ∀ w ∈ wq, w.before _ s = true := fun w h => atoms_spec (ws := wz yX10_restless cX10_restless 1 (some .int)) B.pre w (List.mem_cons_of_mem _ h)
  have hown : s.vm.findClass RX10 = some m.cls := findClass_of_methodNamed B.named
  have hlocks := B.notSynchronized
  obtain ⟨R, hR⟩ : ∃ R : Room, R = ({ frames := 9, cells := 0, slots := 0, locals := 262 } : Room) := ⟨_, rfl⟩
  rw [show (headSpec (wz yX10_restless cX10_restless 1 (some .int)) { frames := 9, cells := 0, slots := 0, locals := 262 }).room = R from hR.symm]
  refine ti_mi hx hb hr hlocks (fun Q ret => ?_)
  have hl := lv_entry [.ref a0] (n := 1) (Nat.le_of_ble_eq_true rfl)
  rw [lg_entry_eq]
  generalize (lg_sl [.ref a0] ++ List.replicate (1 - (lg_sl [.ref a0]).length) Slot.unset).toArray = ls at hl ⊢
  have hl : lv_has ls 1 [(0, .ref a0)] := hl
  refine ti_gen (P := fun H => TI D vwCl (tysOf c0) (RTg ν) Y H) (Y := Y) (ws := [10, 29, 43]) hT (fun H locs hT hS => ?_)
  refine lv_aload_n hx hb dX10_restless_0 rfl (lv_at hl 0 rfl) ?_
  refine ti_calli (va_runV (As := []) (rest := []) ⟨hx, hb, hml, hown, hts⟩ (t_X10_people l hT ha0 hU) (cwV 0 hts (good_V kw_605 kw_606 kw_607 kw_5 kw_608) rfl rfl rfl (by decide +kernel) ⟨by rw [hR]; decide, by rw [hR]; decide⟩) (ti_preV hK hT ha0 rfl rfl) rfl rfl hl.1 rfl (lv_room (Nat.le_of_ble_eq_true rfl)) dX10_restless_1 ⟨Nat.zero_le _, Nat.zero_le _⟩) hS (pW_sub rfl) (fun v1 H1 locs hB hS _ hk1 => ?_)
  obtain ⟨hH, hv1, hp1⟩ := hB
  rw [hH] at hS ⊢
  refine lv_if_le (tgt := 14) hx hb dX10_restless_4 (by decide) (fun c4 => ?_) (fun c4 => ?_)
  · skip
    have kl0 : (0 : Int32).toInt = 0 := by decide
    have f4 := i_le c4
    have hv1_4l : iv v1 0 0 := iv_lel hv1 (iv_c (x := (0 : Int32)) (k := 0) (by decide)) c4 (by decide)
    refine lv_bipush (v := (-2)) hx hb dX10_restless_14 (by decide) ?_
    exact ret _ _ _ _ _ dX10_restless_16 (hT) hS
  · skip
    have kl0 : (0 : Int32).toInt = 0 := by decide
    have f4 := i_nle c4
    have hv1_4r : iv v1 1 8 := iv_ltr (iv_c (x := (0 : Int32)) (k := 0) (by decide)) hv1 (Int32.not_le.mp c4) (by decide)
    refine lv_aload_n hx hb dX10_restless_7 rfl (lv_at hl 0 rfl) ?_
    refine ti_calli (va_runV (As := []) (rest := []) ⟨hx, hb, hml, hown, hts⟩ (t_X10_restlessSet l hT ha0 hU) (cwV 0 hts (good_V kw_1089 kw_1090 kw_1091 kw_5 kw_1092) rfl rfl rfl (by decide +kernel) ⟨by rw [hR]; decide, by rw [hR]; decide⟩) (ti_preV hK hT ha0 rfl rfl) rfl rfl hl.1 rfl (lv_room (Nat.le_of_ble_eq_true rfl)) dX10_restless_8 ⟨Nat.zero_le _, Nat.zero_le _⟩) hS (pW_sub rfl) (fun v8 H locs hB hS _ hk8 => ?_)
    have hT := hB
    refine lv_goto (tgt := 16) hx hb dX10_restless_11 (by decide) ?_
    exact ret _ _ _ _ _ dX10_restless_16 (hT) hS
set_option maxHeartbeats 4000000 in
set_option maxRecDepth 100000 in
theorem t_X10_rests (l : Launch) {D : va_G} {c0 : Nat → ClassId} {Y : Nat → Option Nat} {ν : Nat → Nat} {H : Heap} (hT : TI D vwCl (tysOf c0) (RTg ν) Y H) {a0 : Nat} (ha0 : Y a0 = some 10) {x1 : Int32} (hx1 : iv x1 (-2147483648) 2147483647) (hν3 : ν 3 = 0) (hν5 : ν 5 = 0) (hU : uq Y) : Met l yX10_rests (wz yX10_rests cX10_rests 7 (some .int)) { frames := 9, cells := 0, slots := 0, locals := 262 } (TP D vwCl (tysOf c0) H [.ref a0, .int x1]) (TQi (fun x H' => TI D vwCl (tysOf c0) (RTg ν) Y H') Y [10, 29, 30, 41, 42, 43]) 0 0 (pW Y [10, 29, 30, 41, 42, 43]) := by
  refine Met.ofW (cc := cX10_rests) (maxL := 7) (ret := (some .int)) (by decide) rfl ?_
  intro p e s m args below meth c s₁ B hml hv
  obtain ⟨rfl, rfl, hK⟩ := hv
  have hx := B.exec
  have hb := B.bytes
  have hr := B.returns
  have hts : ∀ w ∈ wq, w.before _ s = true := fun w h => atoms_spec (ws := wz yX10_rests cX10_rests 7 (some .int)) B.pre w (List.mem_cons_of_mem _ h)
  have hown : s.vm.findClass RX10 = some m.cls := findClass_of_methodNamed B.named
  have hlocks := B.notSynchronized
  obtain ⟨R, hR⟩ : ∃ R : Room, R = ({ frames := 9, cells := 0, slots := 0, locals := 262 } : Room) := ⟨_, rfl⟩
  rw [show (headSpec (wz yX10_rests cX10_rests 7 (some .int)) { frames := 9, cells := 0, slots := 0, locals := 262 }).room = R from hR.symm]
  refine ti_mi hx hb hr hlocks (fun Q ret => ?_)
  have hl := lv_entry [.ref a0, .int x1] (n := 7) (Nat.le_of_ble_eq_true rfl)
  rw [lg_entry_eq]
  generalize (lg_sl [.ref a0, .int x1] ++ List.replicate (7 - (lg_sl [.ref a0, .int x1]).length) Slot.unset).toArray = ls at hl ⊢
  have hl : lv_has ls 7 [(0, .ref a0), (1, .int x1)] := hl
  refine ti_gen (P := fun H => TI D vwCl (tysOf c0) (RTg ν) Y H) (Y := Y) (ws := [10, 29, 30, 41, 42, 43]) hT (fun H locs hT hS => ?_)
  refine lv_iload_n hx hb dX10_rests_0 rfl (lv_at hl 1 rfl) ?_
  refine lv_i2l hx hb dX10_rests_1 rfl ?_
  refine lv_topl (fun v1 e1 => ?_)
  have hv1 : jv v1 (-2147483648) 2147483647 := by rw [e1]; exact jv_i hx1
  have t1 : v1.toInt = x1.toInt := by rw [e1]; exact jv_e _
  refine lv_lconst (v := 1) hx hb dX10_rests_2 (by decide) ?_
  have kj1 : (1 : Int64).toInt = 1 := by decide
  refine lv_ldc2 (v := 6) hx hb hown (hts _ kw_1106) dX10_rests_3 ?_
  have kj6 : (6 : Int64).toInt = 6 := by decide
  refine ti_calli (va_runS (As := [.long v1, .long (1 : Int64), .long (6 : Int64)]) (rest := []) ⟨hx, hb, hml, hown, hts⟩ (t_X10_in l hT (jv_w hv1 (by decide)) (jv_w (jv_c (x := (1 : Int64)) (k := 1) (by decide)) (by decide)) (jv_w (jv_c (x := (6 : Int64)) (k := 6) (by decide)) (by decide))) (cwS 3 hts (good_S kw_181 kw_182 kw_5 kw_183) rfl rfl rfl (by decide +kernel) ⟨by rw [hR]; decide, by rw [hR]; decide⟩) (ti_preS hK) rfl rfl hl.1 rfl (lv_room (Nat.le_of_ble_eq_true rfl)) dX10_rests_6 ⟨Nat.zero_le _, Nat.zero_le _⟩) hS (pW_sub rfl) (fun v6 H1 locs hB hS _ hk6 => ?_)
  obtain ⟨hH, hv6, hp6⟩ := hB
  rw [hH] at hS ⊢
  refine lv_if_eq (tgt := 37) hx hb dX10_rests_9 (by decide) (fun c9 => ?_) (fun c9 => ?_)
  · skip
    have kl0 : (0 : Int32).toInt = 0 := by decide
    have f9 := i_eq c9
    have hv6_9l : iv v6 0 0 := iv_eql hv6 (iv_c (x := (0 : Int32)) (k := 0) (by decide)) c9 (by decide)
    refine lv_bipush (v := (-2)) hx hb dX10_rests_37 (by decide) ?_
    exact ret _ _ _ _ _ dX10_rests_39 (hT) hS
  · skip
    have kl0 : (0 : Int32).toInt = 0 := by decide
    have f9 := i_ne c9
    have hv6_9l : iv v6 1 1 := iv_nel hv6 (iv_c (x := (0 : Int32)) (k := 0) (by decide)) c9 (by decide)
    have hv1_9p : jv v1 1 6 := by have b0a := (hv1).1; have b0b := (hv1).2; have b1a := ((jv_c (x := (1 : Int64)) (k := 1) (by decide))).1; have b1b := ((jv_c (x := (1 : Int64)) (k := 1) (by decide))).2; have b2a := ((jv_c (x := (6 : Int64)) (k := 6) (by decide))).1; have b2b := ((jv_c (x := (6 : Int64)) (k := 6) (by decide))).2; exact ⟨by omega, by omega⟩
    have hx1_9p : iv x1 1 6 := by have := t1; have b0a := (hv1_9p).1; have b0b := (hv1_9p).2; have b1a := (hx1).1; have b1b := (hx1).2; exact ⟨by omega, by omega⟩
    refine lv_iload_n hx hb dX10_rests_12 rfl (lv_at hl 1 rfl) ?_
    refine lv_aload_n hx hb dX10_rests_13 rfl (lv_at hl 0 rfl) ?_
    refine ti_getr hx hb hts inlX10 hown hK hT ha0 rfl rfl rfl 1 (by decide) (hts _ kw_130) (fun _ h9 => h9) rfl dX10_rests_14 (fun v14 hv14 hm14 => ?_)
    refine lv_iconst (v := 1) hx hb dX10_rests_17 (by decide) ?_
    refine ti_iald (lo := (-2147483648)) (hi := 100000) hx hb (aT0 hK) hT hv14 rfl (iv_c (x := (1 : Int32)) (k := 1) (by decide)) (by decide) (one_j 1 rfl rfl (by decide) (by decide)) dX10_rests_18 (fun v18 hv18 hm18 => ?_)
    refine lv_icmp_gt (tgt := 37) hx hb dX10_rests_19 (by decide) (fun c19 => ?_) (fun c19 => ?_)
    · skip
      have f19 := i_lt c19
      have hv18_19l : iv v18 (-2147483648) 5 := iv_ltl hv18 hx1_9p c19 (by decide)
      refine lv_bipush (v := (-2)) hx hb dX10_rests_37 (by decide) ?_
      exact ret _ _ _ _ _ dX10_rests_39 (hT) hS
    · skip
      have f19 := i_nlt c19
      have hv18_19r : iv v18 1 100000 := iv_ler hx1_9p hv18 (Int32.not_lt.mp c19) (by decide)
      refine lv_aload_n hx hb dX10_rests_22 rfl (lv_at hl 0 rfl) ?_
      refine ti_calli (va_runV (As := []) (rest := []) ⟨hx, hb, hml, hown, hts⟩ (t_X10_people l hT ha0 hU) (cwV 0 hts (good_V kw_605 kw_606 kw_607 kw_5 kw_608) rfl rfl rfl (by decide +kernel) ⟨by rw [hR]; decide, by rw [hR]; decide⟩) (ti_preV hK hT ha0 rfl rfl) rfl rfl hl.1 rfl (lv_room (Nat.le_of_ble_eq_true rfl)) dX10_rests_23 ⟨Nat.zero_le _, Nat.zero_le _⟩) hS (pW_sub rfl) (fun v23 H1 locs hB hS _ hk23 => ?_)
      obtain ⟨hH, hv23, hp23⟩ := hB
      rw [hH] at hS ⊢
      refine lv_if_eq (tgt := 37) hx hb dX10_rests_26 (by decide) (fun c26 => ?_) (fun c26 => ?_)
      · skip
        have f26 := i_eq c26
        have hv23_26l : iv v23 0 0 := iv_eql hv23 (iv_c (x := (0 : Int32)) (k := 0) (by decide)) c26 (by decide)
        refine lv_bipush (v := (-2)) hx hb dX10_rests_37 (by decide) ?_
        exact ret _ _ _ _ _ dX10_rests_39 (hT) hS
      · skip
        have f26 := i_ne c26
        have hv23_26l : iv v23 1 8 := iv_nel hv23 (iv_c (x := (0 : Int32)) (k := 0) (by decide)) c26 (by decide)
        refine lv_aload_n hx hb dX10_rests_29 rfl (lv_at hl 0 rfl) ?_
        refine ti_calli (va_runV (As := []) (rest := []) ⟨hx, hb, hml, hown, hts⟩ (t_X10_people l hT ha0 hU) (cwV 0 hts (good_V kw_605 kw_606 kw_607 kw_5 kw_608) rfl rfl rfl (by decide +kernel) ⟨by rw [hR]; decide, by rw [hR]; decide⟩) (ti_preV hK hT ha0 rfl rfl) rfl rfl hl.1 rfl (lv_room (Nat.le_of_ble_eq_true rfl)) dX10_rests_30 ⟨Nat.zero_le _, Nat.zero_le _⟩) hS (pW_sub rfl) (fun v30 H1 locs hB hS _ hk30 => ?_)
        obtain ⟨hH, hv30, hp30⟩ := hB
        rw [hH] at hS ⊢
        refine lv_iconst (v := 3) hx hb dX10_rests_33 (by decide) ?_
        refine lv_icmp_le (tgt := 40) hx hb dX10_rests_34 (by decide) (fun c34 => ?_) (fun c34 => ?_)
        · skip
          have kl3 : (3 : Int32).toInt = 3 := by decide
          have f34 := i_le c34
          have hv30_34l : iv v30 0 3 := iv_lel hv30 (iv_c (x := (3 : Int32)) (k := 3) (by decide)) c34 (by decide)
          refine lv_iconst (v := 1) hx hb dX10_rests_40 (by decide) ?_
          refine lv_istore_n (lv' := [(2, .int (1 : Int32)), (0, .ref a0), (1, .int x1)]) hx hb dX10_rests_41 rfl hl (by decide) rfl (fun ls hl => ?_)
          refine lv_iconst (v := 0) hx hb dX10_rests_42 (by decide) ?_
          have J44 : ∀ (n : Nat) (j44_L2 : Int32) (j44_L3 : Int32) (H : Heap) (locs : List Loc) (ls : Array Slot), (8 - j44_L3.toInt).toNat < n → iv j44_L2 (-2147483648) 2147483647 → iv j44_L3 0 8 → TI D vwCl (tysOf c0) (RTg ν) Y H → va_S (pW Y [10, 29, 30, 41, 42, 43]) s.heap H locs → lv_has ls 7 [(0, .ref a0), (1, .int x1), (2, .int j44_L2), (3, .int j44_L3)] → W p l e R s m ([.ref a0, .int x1] : List Value).toArray below meth c H locs 0 0 Q (F0 m 44 ls []) := by
            intro n
            induction n with
            | zero => intro j44_L2 j44_L3 H locs ls hms; exact absurd hms (Nat.not_lt_zero _)
            | succ n ih44 =>
              intro j44_L2 j44_L3 H locs ls hms44 hj44_L2 hj44_L3 hT hS hl
              refine lv_iload_n hx hb dX10_rests_44 rfl (lv_at hl 3 rfl) ?_
              refine lv_aload_n hx hb dX10_rests_45 rfl (lv_at hl 0 rfl) ?_
              refine ti_calli (va_runV (As := []) (rest := [.int j44_L3]) ⟨hx, hb, hml, hown, hts⟩ (t_X10_people l hT ha0 hU) (cwV 0 hts (good_V kw_605 kw_606 kw_607 kw_5 kw_608) rfl rfl rfl (by decide +kernel) ⟨by rw [hR]; decide, by rw [hR]; decide⟩) (ti_preV hK hT ha0 rfl rfl) rfl rfl hl.1 rfl (lv_room (Nat.le_of_ble_eq_true rfl)) dX10_rests_46 ⟨Nat.zero_le _, Nat.zero_le _⟩) hS (pW_sub rfl) (fun v46 H1 locs hB hS _ hk46 => ?_)
              obtain ⟨hH, hv46, hp46⟩ := hB
              rw [hH] at hS ⊢
              refine lv_icmp_ge (tgt := 64) hx hb dX10_rests_49 (by decide) (fun c49 => ?_) (fun c49 => ?_)
              · skip
                have f49 := i_le c49
                refine lv_aload_n hx hb dX10_rests_64 rfl (lv_at hl 0 rfl) ?_
                refine ti_callv (va_runV (As := []) (rest := []) ⟨hx, hb, hml, hown, hts⟩ (t_X10_thinks l hT ha0 hν3 hν5 hU) (cwV 0 hts (good_V kw_819 kw_820 kw_821 kw_5 kw_822) rfl rfl rfl (by decide +kernel) ⟨by rw [hR]; decide, by rw [hR]; decide⟩) (ti_preV hK hT ha0 rfl rfl) rfl rfl hl.1 rfl (lv_room (Nat.le_of_ble_eq_true rfl)) dX10_rests_65 ⟨Nat.zero_le _, Nat.zero_le _⟩) hS (pW_sub rfl) (fun H locs hB hS _ hk65 => ?_)
                have hT := hB
                refine lv_iconst (v := 0) hx hb dX10_rests_68 (by decide) ?_
                refine lv_istore_n (lv' := [(3, .int (0 : Int32)), (0, .ref a0), (1, .int x1), (2, .int j44_L2)]) hx hb dX10_rests_69 rfl hl (by decide) rfl (fun ls hl => ?_)
                refine lv_iconst (v := 0) hx hb dX10_rests_70 (by decide) ?_
                have J73 : ∀ (n : Nat) (j73_L3 : Int32) (j73_L4 : Int32) (H : Heap) (locs : List Loc) (ls : Array Slot), (2147483647 - j73_L4.toInt).toNat < n → iv j73_L3 (-2147483648) 2147483647 → iv j73_L4 0 2147483647 → TI D vwCl (tysOf c0) (RTg (νt ν)) Y H → va_S (pW Y [10, 29, 30, 41, 42, 43]) s.heap H locs → lv_has ls 7 [(0, .ref a0), (1, .int x1), (2, .int j44_L2), (3, .int j73_L3), (4, .int j73_L4)] → W p l e R s m ([.ref a0, .int x1] : List Value).toArray below meth c H locs 0 0 Q (F0 m 73 ls []) := by
                  intro n
                  induction n with
                  | zero => intro j73_L3 j73_L4 H locs ls hms; exact absurd hms (Nat.not_lt_zero _)
                  | succ n ih73 =>
                    intro j73_L3 j73_L4 H locs ls hms73 hj73_L3 hj73_L4 hT hS hl
                    refine lv_iload hx hb dX10_rests_73 (lv_at hl 4 rfl) ?_
                    refine lv_iload_n hx hb dX10_rests_75 rfl (lv_at hl 2 rfl) ?_
                    refine lv_icmp_ge (tgt := 151) hx hb dX10_rests_76 (by decide) (fun c76 => ?_) (fun c76 => ?_)
                    · skip
                      have f76 := i_le c76
                      refine lv_aload_n hx hb dX10_rests_151 rfl (lv_at hl 0 rfl) ?_
                      refine ti_callv (va_runV (As := []) (rest := []) ⟨hx, hb, hml, hown, hts⟩ (t_X10_wakes l hT ha0 rfl rfl hU) (cwV 0 hts (good_V kw_824 kw_825 kw_826 kw_5 kw_827) rfl rfl rfl (by decide +kernel) ⟨by rw [hR]; decide, by rw [hR]; decide⟩) (ti_preV hK hT ha0 rfl rfl) rfl rfl hl.1 rfl (lv_room (Nat.le_of_ble_eq_true rfl)) dX10_rests_152 ⟨Nat.zero_le _, Nat.zero_le _⟩) hS (pW_sub rfl) (fun H locs hB hS _ hk152 => ?_)
                      have hT := hB
                      rw [nu_back hν3 hν5] at hT
                      refine lv_iload_n hx hb dX10_rests_155 rfl (lv_at hl 3 rfl) ?_
                      exact ret _ _ _ _ _ dX10_rests_156 (hT) hS
                    · skip
                      have f76 := i_nle c76
                      have hj73_L4_76l : iv j73_L4 0 2147483646 := iv_ltl hj73_L4 hj44_L2 (Int32.not_le.mp c76) (by decide)
                      have hj44_L2_76r : iv j44_L2 1 2147483647 := iv_ltr hj73_L4_76l hj44_L2 (Int32.not_le.mp c76) (by decide)
                      refine lv_iload hx hb dX10_rests_79 (lv_at hl 4 rfl) ?_
                      refine lv_istore (lv' := [(5, .int j73_L4), (0, .ref a0), (1, .int x1), (2, .int j44_L2), (3, .int j73_L3), (4, .int j73_L4)]) hx hb dX10_rests_81 hl (by decide) rfl (fun ls hl => ?_)
                      refine lv_iconst (v := 0) hx hb dX10_rests_83 (by decide) ?_
                      have J86 : ∀ (n : Nat) (j86_L5 : Int32) (j86_L6 : Int32) (H : Heap) (locs : List Loc) (ls : Array Slot), (8 - j86_L6.toInt).toNat < n → iv j86_L5 0 2147483647 → iv j86_L6 0 8 → TI D vwCl (tysOf c0) (RTg (νt ν)) Y H → va_S (pW Y [10, 29, 30, 41, 42, 43]) s.heap H locs → lv_has ls 7 [(0, .ref a0), (1, .int x1), (2, .int j44_L2), (3, .int j73_L3), (4, .int j73_L4), (5, .int j86_L5), (6, .int j86_L6)] → W p l e R s m ([.ref a0, .int x1] : List Value).toArray below meth c H locs 0 0 Q (F0 m 86 ls []) := by
                        intro n
                        induction n with
                        | zero => intro j86_L5 j86_L6 H locs ls hms; exact absurd hms (Nat.not_lt_zero _)
                        | succ n ih86 =>
                          intro j86_L5 j86_L6 H locs ls hms86 hj86_L5 hj86_L6 hT hS hl
                          refine lv_iload hx hb dX10_rests_86 (lv_at hl 6 rfl) ?_
                          refine lv_aload_n hx hb dX10_rests_88 rfl (lv_at hl 0 rfl) ?_
                          refine ti_calli (va_runV (As := []) (rest := [.int j86_L6]) ⟨hx, hb, hml, hown, hts⟩ (t_X10_people l hT ha0 hU) (cwV 0 hts (good_V kw_605 kw_606 kw_607 kw_5 kw_608) rfl rfl rfl (by decide +kernel) ⟨by rw [hR]; decide, by rw [hR]; decide⟩) (ti_preV hK hT ha0 rfl rfl) rfl rfl hl.1 rfl (lv_room (Nat.le_of_ble_eq_true rfl)) dX10_rests_89 ⟨Nat.zero_le _, Nat.zero_le _⟩) hS (pW_sub rfl) (fun v89 H1 locs hB hS _ hk89 => ?_)
                          obtain ⟨hH, hv89, hp89⟩ := hB
                          rw [hH] at hS ⊢
                          refine lv_icmp_ge (tgt := 130) hx hb dX10_rests_92 (by decide) (fun c92 => ?_) (fun c92 => ?_)
                          · skip
                            have f92 := i_le c92
                            refine lv_iload_n hx hb dX10_rests_130 rfl (lv_at hl 3 rfl) ?_
                            refine lv_aload_n hx hb dX10_rests_131 rfl (lv_at hl 0 rfl) ?_
                            refine ti_calli (va_runV (As := []) (rest := [.int j73_L3]) ⟨hx, hb, hml, hown, hts⟩ (t_X10_restlessSet l hT ha0 hU) (cwV 0 hts (good_V kw_1089 kw_1090 kw_1091 kw_5 kw_1092) rfl rfl rfl (by decide +kernel) ⟨by rw [hR]; decide, by rw [hR]; decide⟩) (ti_preV hK hT ha0 rfl rfl) rfl rfl hl.1 rfl (lv_room (Nat.le_of_ble_eq_true rfl)) dX10_rests_132 ⟨Nat.zero_le _, Nat.zero_le _⟩) hS (pW_sub rfl) (fun v132 H locs hB hS _ hk132 => ?_)
                            have hT := hB
                            have J143 : ∀ (j143_S1 : Int32) (H : Heap) (locs : List Loc) (ls : Array Slot), iv j143_S1 0 1 → TI D vwCl (tysOf c0) (RTg (νt ν)) Y H → va_S (pW Y [10, 29, 30, 41, 42, 43]) s.heap H locs → lv_has ls 7 [(0, .ref a0), (1, .int x1), (2, .int j44_L2), (3, .int j73_L3), (4, .int j73_L4), (5, .int j86_L5), (6, .int j86_L6)] → W p l e R s m ([.ref a0, .int x1] : List Value).toArray below meth c H locs 0 0 Q (F0 m 143 ls [.int j143_S1, .int j73_L3]) := by
                              intro j143_S1 H locs ls hj143_S1 hT hS hl
                              refine lv_iadd hx hb dX10_rests_143 ?_
                              refine lv_topi (fun v143 e143 => ?_)
                              have hv143 : iv v143 (-2147483648) 2147483647 := iv_top _
                              refine lv_istore_n (lv' := [(3, .int v143), (0, .ref a0), (1, .int x1), (2, .int j44_L2), (4, .int j73_L4), (5, .int j86_L5), (6, .int j86_L6)]) hx hb dX10_rests_144 rfl hl (by decide) rfl (fun ls hl => ?_)
                              obtain ⟨v145, e145⟩ : ∃ y : Int32, y = j73_L4 + 1 := ⟨_, rfl⟩
                              have hv145 : iv v145 1 2147483647 := by rw [e145]; exact iv_w (iv_add hj73_L4_76l (iv_c (x := (1 : Int32)) (k := 1) (by decide)) (by decide)) (by decide)
                              have s145 : v145.toInt = j73_L4.toInt + 1 := by rw [e145, iv_addE hj73_L4_76l (iv_c (x := (1 : Int32)) (k := 1) (by decide)) (by decide)]; rfl
                              refine lv_iinc (v := v145) (lv' := [(4, .int v145), (3, .int v143), (0, .ref a0), (1, .int x1), (2, .int j44_L2), (5, .int j86_L5), (6, .int j86_L6)]) hx hb dX10_rests_145 hl (k := 4) rfl (by rw [e145]; rfl) (by decide) rfl (fun ls hl => ?_)
                              refine lv_goto (tgt := 73) hx hb dX10_rests_148 (by decide) ?_
                              exact ih73 v143 v145 _ _ _ (ms_up hms73 (by have := s145; omega) (iv_w (c := 1) (d := 2147483647) hv145 (by decide)).2) (iv_w hv143 (by decide)) (iv_w hv145 (by decide)) hT hS (lv_sub hl [2, 3, 4, 1, 0] rfl)
                            refine lv_if_ne (tgt := 142) hx hb dX10_rests_135 (by decide) (fun c135 => ?_) (fun c135 => ?_)
                            · skip
                              have f135 := i_ne c135
                              refine lv_iconst (v := 0) hx hb dX10_rests_142 (by decide) ?_
                              exact J143 (0 : Int32) _ _ _  (iv_w (iv_c (x := (0 : Int32)) (k := 0) (by decide)) (by decide)) hT hS (lv_sub hl [0, 1, 2, 3, 4, 5, 6] rfl)
                            · skip
                              have f135 := i_eq c135
                              have hv132_135l : iv v132 0 0 := iv_eql (iv_top v132) (iv_c (x := (0 : Int32)) (k := 0) (by decide)) c135 (by decide)
                              refine lv_iconst (v := 1) hx hb dX10_rests_138 (by decide) ?_
                              refine lv_goto (tgt := 143) hx hb dX10_rests_139 (by decide) ?_
                              exact J143 (1 : Int32) _ _ _  (iv_w (iv_c (x := (1 : Int32)) (k := 1) (by decide)) (by decide)) hT hS (lv_sub hl [0, 1, 2, 3, 4, 5, 6] rfl)
                          · skip
                            have f92 := i_nle c92
                            have hj86_L6_92l : iv j86_L6 0 7 := iv_ltl hj86_L6 hv89 (Int32.not_le.mp c92) (by decide)
                            have hv89_92r : iv v89 1 8 := iv_ltr hj86_L6_92l hv89 (Int32.not_le.mp c92) (by decide)
                            refine lv_aload_n hx hb dX10_rests_95 rfl (lv_at hl 0 rfl) ?_
                            refine lv_iload hx hb dX10_rests_96 (lv_at hl 6 rfl) ?_
                            refine lv_iconst (v := 0) hx hb dX10_rests_98 (by decide) ?_
                            refine lv_iload hx hb dX10_rests_99 (lv_at hl 5 rfl) ?_
                            refine lv_iload_n hx hb dX10_rests_101 rfl (lv_at hl 1 rfl) ?_
                            refine lv_iconst (v := 1) hx hb dX10_rests_102 (by decide) ?_
                            refine lv_iadd hx hb dX10_rests_103 ?_
                            refine lv_topi (fun v103 e103 => ?_)
                            have hv103 : iv v103 2 7 := by rw [e103]; exact iv_w (iv_add hx1_9p (iv_c (x := (1 : Int32)) (k := 1) (by decide)) (by decide)) (by decide)
                            have s103 : v103.toInt = x1.toInt + 1 := by rw [e103, iv_addE hx1_9p (iv_c (x := (1 : Int32)) (k := 1) (by decide)) (by decide)]; rfl
                            have kl1 : (1 : Int32).toInt = 1 := by decide
                            refine lv_irem hx hb dX10_rests_104 (iv_ne0 hv103 (by decide)) ?_
                            refine lv_topi (fun v104 e104 => ?_)
                            have hv104 : iv v104 0 6 := by rw [e104]; exact iv_rem hj86_L5 hv103 (by decide)
                            refine ti_callv (va_runV (As := [.int j86_L6, .int (0 : Int32), .int v104]) (rest := []) ⟨hx, hb, hml, hown, hts⟩ (t_X10_set l hT ha0 (iv_w hj86_L6_92l (by decide)) (iv_w (iv_c (x := (0 : Int32)) (k := 0) (by decide)) (by decide)) (iv_w hv104 (by decide)) (fun h9 => by have b0a := (hj86_L6_92l).1; have b0b := (hj86_L6_92l).2; have b1a := (hv104).1; have b1b := (hv104).2; omega) hU) (cwV 3 hts (good_V kw_511 kw_512 kw_513 kw_5 kw_514) rfl rfl rfl (by decide +kernel) ⟨by rw [hR]; decide, by rw [hR]; decide⟩) (ti_preV hK hT ha0 rfl rfl) rfl rfl hl.1 rfl (lv_room (Nat.le_of_ble_eq_true rfl)) dX10_rests_105 ⟨Nat.zero_le _, Nat.zero_le _⟩) hS (pW_sub rfl) (fun H locs hB hS _ hk105 => ?_)
                            obtain ⟨hT, hp105⟩ := hB
                            refine lv_aload_n hx hb dX10_rests_108 rfl (lv_at hl 0 rfl) ?_
                            refine lv_iload hx hb dX10_rests_109 (lv_at hl 6 rfl) ?_
                            refine lv_iconst (v := 1) hx hb dX10_rests_111 (by decide) ?_
                            refine lv_iconst (v := 0) hx hb dX10_rests_112 (by decide) ?_
                            refine ti_callv (va_runV (As := [.int j86_L6, .int (1 : Int32), .int (0 : Int32)]) (rest := []) ⟨hx, hb, hml, hown, hts⟩ (t_X10_set l hT ha0 (iv_w hj86_L6_92l (by decide)) (iv_w (iv_c (x := (1 : Int32)) (k := 1) (by decide)) (by decide)) (iv_w (iv_c (x := (0 : Int32)) (k := 0) (by decide)) (by decide)) (fun h9 => by have b0a := (hj86_L6_92l).1; have b0b := (hj86_L6_92l).2; omega) hU) (cwV 3 hts (good_V kw_511 kw_512 kw_513 kw_5 kw_514) rfl rfl rfl (by decide +kernel) ⟨by rw [hR]; decide, by rw [hR]; decide⟩) (ti_preV hK hT ha0 rfl rfl) rfl rfl hl.1 rfl (lv_room (Nat.le_of_ble_eq_true rfl)) dX10_rests_113 ⟨Nat.zero_le _, Nat.zero_le _⟩) hS (pW_sub rfl) (fun H locs hB hS _ hk113 => ?_)
                            obtain ⟨hT, hp113⟩ := hB
                            refine lv_iload hx hb dX10_rests_116 (lv_at hl 5 rfl) ?_
                            refine lv_iload_n hx hb dX10_rests_118 rfl (lv_at hl 1 rfl) ?_
                            refine lv_iconst (v := 1) hx hb dX10_rests_119 (by decide) ?_
                            refine lv_iadd hx hb dX10_rests_120 ?_
                            refine lv_topi (fun v120 e120 => ?_)
                            have hv120 : iv v120 2 7 := by rw [e120]; exact iv_w (iv_add hx1_9p (iv_c (x := (1 : Int32)) (k := 1) (by decide)) (by decide)) (by decide)
                            have s120 : v120.toInt = x1.toInt + 1 := by rw [e120, iv_addE hx1_9p (iv_c (x := (1 : Int32)) (k := 1) (by decide)) (by decide)]; rfl
                            refine lv_idiv hx hb dX10_rests_121 (iv_ne0 hv120 (by decide)) ?_
                            refine lv_topi (fun v121 e121 => ?_)
                            have hv121 : iv v121 0 2147483647 := by rw [e121]; exact iv_div hj86_L5 hv120 (by decide)
                            refine lv_istore (lv' := [(5, .int v121), (0, .ref a0), (1, .int x1), (2, .int j44_L2), (3, .int j73_L3), (4, .int j73_L4), (6, .int j86_L6)]) hx hb dX10_rests_122 hl (by decide) rfl (fun ls hl => ?_)
                            obtain ⟨v124, e124⟩ : ∃ y : Int32, y = j86_L6 + 1 := ⟨_, rfl⟩
                            have hv124 : iv v124 1 8 := by rw [e124]; exact iv_w (iv_add hj86_L6_92l (iv_c (x := (1 : Int32)) (k := 1) (by decide)) (by decide)) (by decide)
                            have s124 : v124.toInt = j86_L6.toInt + 1 := by rw [e124, iv_addE hj86_L6_92l (iv_c (x := (1 : Int32)) (k := 1) (by decide)) (by decide)]; rfl
                            refine lv_iinc (v := v124) (lv' := [(6, .int v124), (5, .int v121), (0, .ref a0), (1, .int x1), (2, .int j44_L2), (3, .int j73_L3), (4, .int j73_L4)]) hx hb dX10_rests_124 hl (k := 6) rfl (by rw [e124]; rfl) (by decide) rfl (fun ls hl => ?_)
                            refine lv_goto (tgt := 86) hx hb dX10_rests_127 (by decide) ?_
                            exact ih86 v121 v124 _ _ _ (ms_up hms86 (by have := s124; omega) (iv_w (c := 1) (d := 8) hv124 (by decide)).2) (iv_w hv121 (by decide)) (iv_w hv124 (by decide)) hT hS (lv_sub hl [2, 3, 4, 5, 6, 1, 0] rfl)
                      refine lv_istore (lv' := [(6, .int (0 : Int32)), (5, .int j73_L4), (0, .ref a0), (1, .int x1), (2, .int j44_L2), (3, .int j73_L3), (4, .int j73_L4)]) hx hb dX10_rests_84 hl (by decide) rfl (fun ls hl => ?_)
                      exact J86 _ j73_L4 (0 : Int32) _ _ _ (Nat.lt_succ_self _) (iv_w hj73_L4_76l (by decide)) (iv_w (iv_c (x := (0 : Int32)) (k := 0) (by decide)) (by decide)) hT hS (lv_sub hl [2, 3, 4, 5, 6, 1, 0] rfl)
                refine lv_istore (lv' := [(4, .int (0 : Int32)), (3, .int (0 : Int32)), (0, .ref a0), (1, .int x1), (2, .int j44_L2)]) hx hb dX10_rests_71 hl (by decide) rfl (fun ls hl => ?_)
                exact J73 _ (0 : Int32) (0 : Int32) _ _ _ (Nat.lt_succ_self _) (iv_w (iv_c (x := (0 : Int32)) (k := 0) (by decide)) (by decide)) (iv_w (iv_c (x := (0 : Int32)) (k := 0) (by decide)) (by decide)) hT hS (lv_sub hl [2, 3, 4, 1, 0] rfl)
              · skip
                have f49 := i_nle c49
                have hj44_L3_49l : iv j44_L3 0 7 := iv_ltl hj44_L3 hv46 (Int32.not_le.mp c49) (by decide)
                have hv46_49r : iv v46 1 8 := iv_ltr hj44_L3_49l hv46 (Int32.not_le.mp c49) (by decide)
                refine lv_iload_n hx hb dX10_rests_52 rfl (lv_at hl 2 rfl) ?_
                refine lv_iload_n hx hb dX10_rests_53 rfl (lv_at hl 1 rfl) ?_
                refine lv_iconst (v := 1) hx hb dX10_rests_54 (by decide) ?_
                refine lv_iadd hx hb dX10_rests_55 ?_
                refine lv_topi (fun v55 e55 => ?_)
                have hv55 : iv v55 2 7 := by rw [e55]; exact iv_w (iv_add hx1_9p (iv_c (x := (1 : Int32)) (k := 1) (by decide)) (by decide)) (by decide)
                have s55 : v55.toInt = x1.toInt + 1 := by rw [e55, iv_addE hx1_9p (iv_c (x := (1 : Int32)) (k := 1) (by decide)) (by decide)]; rfl
                have kl1 : (1 : Int32).toInt = 1 := by decide
                refine lv_imul hx hb dX10_rests_56 ?_
                refine lv_topi (fun v56 e56 => ?_)
                have hv56 : iv v56 (-2147483648) 2147483647 := iv_top _
                refine lv_istore_n (lv' := [(2, .int v56), (0, .ref a0), (1, .int x1), (3, .int j44_L3)]) hx hb dX10_rests_57 rfl hl (by decide) rfl (fun ls hl => ?_)
                obtain ⟨v58, e58⟩ : ∃ y : Int32, y = j44_L3 + 1 := ⟨_, rfl⟩
                have hv58 : iv v58 1 8 := by rw [e58]; exact iv_w (iv_add hj44_L3_49l (iv_c (x := (1 : Int32)) (k := 1) (by decide)) (by decide)) (by decide)
                have s58 : v58.toInt = j44_L3.toInt + 1 := by rw [e58, iv_addE hj44_L3_49l (iv_c (x := (1 : Int32)) (k := 1) (by decide)) (by decide)]; rfl
                refine lv_iinc (v := v58) (lv' := [(3, .int v58), (2, .int v56), (0, .ref a0), (1, .int x1)]) hx hb dX10_rests_58 hl (k := 3) rfl (by rw [e58]; rfl) (by decide) rfl (fun ls hl => ?_)
                refine lv_goto (tgt := 44) hx hb dX10_rests_61 (by decide) ?_
                exact ih44 v56 v58 _ _ _ (ms_up hms44 (by have := s58; omega) (iv_w (c := 1) (d := 8) hv58 (by decide)).2) (iv_w hv56 (by decide)) (iv_w hv58 (by decide)) hT hS (lv_sub hl [2, 3, 1, 0] rfl)
          refine lv_istore_n (lv' := [(3, .int (0 : Int32)), (2, .int (1 : Int32)), (0, .ref a0), (1, .int x1)]) hx hb dX10_rests_43 rfl hl (by decide) rfl (fun ls hl => ?_)
          exact J44 _ (1 : Int32) (0 : Int32) _ _ _ (Nat.lt_succ_self _) (iv_w (iv_c (x := (1 : Int32)) (k := 1) (by decide)) (by decide)) (iv_w (iv_c (x := (0 : Int32)) (k := 0) (by decide)) (by decide)) hT hS (lv_sub hl [2, 3, 1, 0] rfl)
        · skip
          have kl3 : (3 : Int32).toInt = 3 := by decide
          have f34 := i_nle c34
          have hv30_34r : iv v30 4 8 := iv_ltr (iv_c (x := (3 : Int32)) (k := 3) (by decide)) hv30 (Int32.not_le.mp c34) (by decide)
          refine lv_bipush (v := (-2)) hx hb dX10_rests_37 (by decide) ?_
          exact ret _ _ _ _ _ dX10_rests_39 (hT) hS
set_option maxHeartbeats 4000000 in
set_option maxRecDepth 100000 in
theorem t_X10_topSeen (l : Launch) {D : va_G} {c0 : Nat → ClassId} {Y : Nat → Option Nat} {ν : Nat → Nat} {H : Heap} (hT : TI D vwCl (tysOf c0) (RTg ν) Y H) {a0 : Nat} (ha0 : Y a0 = some 10) {x1 : Int32} (hx1 : iv x1 0 7) (hU : uq Y) : Met l yX10_topSeen (wz yX10_topSeen cX10_topSeen 4 (some .int)) { frames := 3, cells := 0, slots := 0, locals := 66 } (TP D vwCl (tysOf c0) H [.ref a0, .int x1]) (TQi (fun x H' => H' = H ∧ iv x 0 2147483647) Y []) 0 0 (pW Y []) := by
  refine Met.ofW (cc := cX10_topSeen) (maxL := 4) (ret := (some .int)) (by decide) rfl ?_
  intro p e s m args below meth c s₁ B hml hv
  obtain ⟨rfl, rfl, hK⟩ := hv
  have hx := B.exec
  have hb := B.bytes
  have hr := B.returns
  have hts : ∀ w ∈ wq, w.before _ s = true := fun w h => atoms_spec (ws := wz yX10_topSeen cX10_topSeen 4 (some .int)) B.pre w (List.mem_cons_of_mem _ h)
  have hown : s.vm.findClass RX10 = some m.cls := findClass_of_methodNamed B.named
  have hlocks := B.notSynchronized
  obtain ⟨R, hR⟩ : ∃ R : Room, R = ({ frames := 3, cells := 0, slots := 0, locals := 66 } : Room) := ⟨_, rfl⟩
  rw [show (headSpec (wz yX10_topSeen cX10_topSeen 4 (some .int)) { frames := 3, cells := 0, slots := 0, locals := 66 }).room = R from hR.symm]
  refine ti_mi hx hb hr hlocks (fun Q ret => ?_)
  have hl := lv_entry [.ref a0, .int x1] (n := 4) (Nat.le_of_ble_eq_true rfl)
  rw [lg_entry_eq]
  generalize (lg_sl [.ref a0, .int x1] ++ List.replicate (4 - (lg_sl [.ref a0, .int x1]).length) Slot.unset).toArray = ls at hl ⊢
  have hl : lv_has ls 4 [(0, .ref a0), (1, .int x1)] := hl
  have hS : va_S (pW Y []) s.heap s.heap [] := va_S.rf
  refine lv_iconst (v := 0) hx hb dX10_topSeen_0 (by decide) ?_
  refine lv_istore_n (lv' := [(2, .int (0 : Int32)), (0, .ref a0), (1, .int x1)]) hx hb dX10_topSeen_1 rfl hl (by decide) rfl (fun ls hl => ?_)
  refine lv_iconst (v := 0) hx hb dX10_topSeen_2 (by decide) ?_
  have J4 : ∀ (n : Nat) (j4_L2 : Int32) (j4_L3 : Int32) (locs : List Loc) (ls : Array Slot), (8 - j4_L3.toInt).toNat < n → iv j4_L2 0 2147483647 → iv j4_L3 0 8 → va_S (pW Y []) s.heap s.heap locs → lv_has ls 4 [(0, .ref a0), (1, .int x1), (2, .int j4_L2), (3, .int j4_L3)] → W p l e R s m ([.ref a0, .int x1] : List Value).toArray below meth c s.heap locs 0 0 Q (F0 m 4 ls []) := by
    intro n
    induction n with
    | zero => intro j4_L2 j4_L3 locs ls hms; exact absurd hms (Nat.not_lt_zero _)
    | succ n ih4 =>
      intro j4_L2 j4_L3 locs ls hms4 hj4_L2 hj4_L3 hS hl
      refine lv_iload_n hx hb dX10_topSeen_4 rfl (lv_at hl 3 rfl) ?_
      refine lv_aload_n hx hb dX10_topSeen_5 rfl (lv_at hl 0 rfl) ?_
      refine ti_calli (va_runV (As := []) (rest := [.int j4_L3]) ⟨hx, hb, hml, hown, hts⟩ (t_X10_people l hT ha0 hU) (cwV 0 hts (good_V kw_605 kw_606 kw_607 kw_5 kw_608) rfl rfl rfl (by decide +kernel) ⟨by rw [hR]; decide, by rw [hR]; decide⟩) (ti_preV hK hT ha0 rfl rfl) rfl rfl hl.1 rfl (lv_room (Nat.le_of_ble_eq_true rfl)) dX10_topSeen_6 ⟨Nat.zero_le _, Nat.zero_le _⟩) hS (pW_sub rfl) (fun v6 H1 locs hB hS _ hk6 => ?_)
      obtain ⟨hH, hv6, hp6⟩ := hB
      rw [hH] at hS ⊢
      refine lv_icmp_ge (tgt := 38) hx hb dX10_topSeen_9 (by decide) (fun c9 => ?_) (fun c9 => ?_)
      · skip
        have f9 := i_le c9
        refine lv_iload_n hx hb dX10_topSeen_38 rfl (lv_at hl 2 rfl) ?_
        exact ret _ _ _ _ _ dX10_topSeen_39 (⟨rfl, iv_w hj4_L2 (by decide)⟩) hS
      · skip
        have f9 := i_nle c9
        have hj4_L3_9l : iv j4_L3 0 7 := iv_ltl hj4_L3 hv6 (Int32.not_le.mp c9) (by decide)
        have hv6_9r : iv v6 1 8 := iv_ltr hj4_L3_9l hv6 (Int32.not_le.mp c9) (by decide)
        refine lv_iload_n hx hb dX10_topSeen_12 rfl (lv_at hl 3 rfl) ?_
        refine lv_iload_n hx hb dX10_topSeen_13 rfl (lv_at hl 1 rfl) ?_
        have J31 : ∀ (j31_S0 : Int32) (locs : List Loc) (ls : Array Slot), iv j31_S0 0 2147483647 → va_S (pW Y []) s.heap s.heap locs → lv_has ls 4 [(0, .ref a0), (1, .int x1), (2, .int j4_L2), (3, .int j4_L3)] → W p l e R s m ([.ref a0, .int x1] : List Value).toArray below meth c s.heap locs 0 0 Q (F0 m 31 ls [.int j31_S0]) := by
          intro j31_S0 locs ls hj31_S0 hS hl
          refine lv_istore_n (lv' := [(2, .int j31_S0), (0, .ref a0), (1, .int x1), (3, .int j4_L3)]) hx hb dX10_topSeen_31 rfl hl (by decide) rfl (fun ls hl => ?_)
          obtain ⟨v32, e32⟩ : ∃ y : Int32, y = j4_L3 + 1 := ⟨_, rfl⟩
          have hv32 : iv v32 1 8 := by rw [e32]; exact iv_w (iv_add hj4_L3_9l (iv_c (x := (1 : Int32)) (k := 1) (by decide)) (by decide)) (by decide)
          have s32 : v32.toInt = j4_L3.toInt + 1 := by rw [e32, iv_addE hj4_L3_9l (iv_c (x := (1 : Int32)) (k := 1) (by decide)) (by decide)]; rfl
          refine lv_iinc (v := v32) (lv' := [(3, .int v32), (2, .int j31_S0), (0, .ref a0), (1, .int x1)]) hx hb dX10_topSeen_32 hl (k := 3) rfl (by rw [e32]; rfl) (by decide) rfl (fun ls hl => ?_)
          refine lv_goto (tgt := 4) hx hb dX10_topSeen_35 (by decide) ?_
          exact ih4 j31_S0 v32 _ _ (ms_up hms4 (by have := s32; omega) (iv_w (c := 1) (d := 8) hv32 (by decide)).2) (iv_w hj31_S0 (by decide)) (iv_w hv32 (by decide))  hS (lv_sub hl [2, 3, 1, 0] rfl)
        refine lv_icmp_ne (tgt := 21) hx hb dX10_topSeen_14 (by decide) (fun c14 => ?_) (fun c14 => ?_)
        · skip
          have f14 := i_ne c14
          refine lv_iload_n hx hb dX10_topSeen_21 rfl (lv_at hl 2 rfl) ?_
          refine lv_aload_n hx hb dX10_topSeen_22 rfl (lv_at hl 0 rfl) ?_
          refine lv_iload_n hx hb dX10_topSeen_23 rfl (lv_at hl 1 rfl) ?_
          refine lv_iload_n hx hb dX10_topSeen_24 rfl (lv_at hl 3 rfl) ?_
          refine ti_calli (va_runV (As := [.int x1, .int j4_L3]) (rest := [.int j4_L2]) ⟨hx, hb, hml, hown, hts⟩ (t_X10_sees l hT ha0 (iv_w hx1 (by decide)) (iv_w hj4_L3_9l (by decide)) hU) (cwV 2 hts (good_V kw_549 kw_550 kw_551 kw_5 kw_552) rfl rfl rfl (by decide +kernel) ⟨by rw [hR]; decide, by rw [hR]; decide⟩) (ti_preV hK hT ha0 rfl rfl) rfl rfl hl.1 rfl (lv_room (Nat.le_of_ble_eq_true rfl)) dX10_topSeen_25 ⟨Nat.zero_le _, Nat.zero_le _⟩) hS (pW_sub rfl) (fun v25 H1 locs hB hS _ hk25 => ?_)
          have hH := hB
          rw [hH] at hS ⊢
          refine va_mmax hx hb (by rw [hml]; exact hl.1.symm) hown (hts _ kw_617) (hts _ kw_618) (hts _ kw_212) (hts _ kw_619) (by rw [hR]; decide) (by rw [hR]; exact Nat.le_of_ble_eq_true rfl) (Nat.zero_le _) (Nat.zero_le _) dX10_topSeen_28 ?_
          refine lv_topi (fun v28 e28 => ?_)
          have hv28 : iv v28 0 2147483647 := by rw [e28]; exact iv_max hj4_L2 (iv_top v25) (by decide)
          exact J31 v28 _ _  (iv_w hv28 (by decide))  hS (lv_sub hl [0, 1, 2, 3] rfl)
        · skip
          have f14 := i_eq c14
          refine lv_iload_n hx hb dX10_topSeen_17 rfl (lv_at hl 2 rfl) ?_
          refine lv_goto (tgt := 31) hx hb dX10_topSeen_18 (by decide) ?_
          exact J31 j4_L2 _ _  (iv_w hj4_L2 (by decide))  hS (lv_sub hl [0, 1, 2, 3] rfl)
  refine lv_istore_n (lv' := [(3, .int (0 : Int32)), (2, .int (0 : Int32)), (0, .ref a0), (1, .int x1)]) hx hb dX10_topSeen_3 rfl hl (by decide) rfl (fun ls hl => ?_)
  exact J4 _ (0 : Int32) (0 : Int32) _ _ (Nat.lt_succ_self _) (iv_w (iv_c (x := (0 : Int32)) (k := 0) (by decide)) (by decide)) (iv_w (iv_c (x := (0 : Int32)) (k := 0) (by decide)) (by decide))  hS (lv_sub hl [2, 3, 1, 0] rfl)
set_option maxHeartbeats 4000000 in
set_option maxRecDepth 100000 in
theorem t_X10_firstTop (l : Launch) {D : va_G} {c0 : Nat → ClassId} {Y : Nat → Option Nat} {ν : Nat → Nat} {H : Heap} (hT : TI D vwCl (tysOf c0) (RTg ν) Y H) {a0 : Nat} (ha0 : Y a0 = some 10) {x1 : Int32} (hx1 : iv x1 0 7) (hU : uq Y) : Met l yX10_firstTop (wz yX10_firstTop cX10_firstTop 4 (some .int)) { frames := 4, cells := 0, slots := 0, locals := 89 } (TP D vwCl (tysOf c0) H [.ref a0, .int x1]) (TQi (fun x H' => H' = H ∧ iv x (-1) 7) Y []) 0 0 (pW Y []) := by
  refine Met.ofW (cc := cX10_firstTop) (maxL := 4) (ret := (some .int)) (by decide) rfl ?_
  intro p e s m args below meth c s₁ B hml hv
  obtain ⟨rfl, rfl, hK⟩ := hv
  have hx := B.exec
  have hb := B.bytes
  have hr := B.returns
  have hts : ∀ w ∈ wq, w.before _ s = true := fun w h => atoms_spec (ws := wz yX10_firstTop cX10_firstTop 4 (some .int)) B.pre w (List.mem_cons_of_mem _ h)
  have hown : s.vm.findClass RX10 = some m.cls := findClass_of_methodNamed B.named
  have hlocks := B.notSynchronized
  obtain ⟨R, hR⟩ : ∃ R : Room, R = ({ frames := 4, cells := 0, slots := 0, locals := 89 } : Room) := ⟨_, rfl⟩
  rw [show (headSpec (wz yX10_firstTop cX10_firstTop 4 (some .int)) { frames := 4, cells := 0, slots := 0, locals := 89 }).room = R from hR.symm]
  refine ti_mi hx hb hr hlocks (fun Q ret => ?_)
  have hl := lv_entry [.ref a0, .int x1] (n := 4) (Nat.le_of_ble_eq_true rfl)
  rw [lg_entry_eq]
  generalize (lg_sl [.ref a0, .int x1] ++ List.replicate (4 - (lg_sl [.ref a0, .int x1]).length) Slot.unset).toArray = ls at hl ⊢
  have hl : lv_has ls 4 [(0, .ref a0), (1, .int x1)] := hl
  have hS : va_S (pW Y []) s.heap s.heap [] := va_S.rf
  refine lv_aload_n hx hb dX10_firstTop_0 rfl (lv_at hl 0 rfl) ?_
  refine lv_iload_n hx hb dX10_firstTop_1 rfl (lv_at hl 1 rfl) ?_
  refine ti_calli (va_runV (As := [.int x1]) (rest := []) ⟨hx, hb, hml, hown, hts⟩ (t_X10_topSeen l hT ha0 (iv_w hx1 (by decide)) hU) (cwV 1 hts (good_V kw_991 kw_992 kw_993 kw_5 kw_994) rfl rfl rfl (by decide +kernel) ⟨by rw [hR]; decide, by rw [hR]; decide⟩) (ti_preV hK hT ha0 rfl rfl) rfl rfl hl.1 rfl (lv_room (Nat.le_of_ble_eq_true rfl)) dX10_firstTop_2 ⟨Nat.zero_le _, Nat.zero_le _⟩) hS (pW_sub rfl) (fun v2 H1 locs hB hS _ hk2 => ?_)
  obtain ⟨hH, hv2⟩ := hB
  rw [hH] at hS ⊢
  refine lv_istore_n (lv' := [(2, .int v2), (0, .ref a0), (1, .int x1)]) hx hb dX10_firstTop_5 rfl hl (by decide) rfl (fun ls hl => ?_)
  refine lv_iconst (v := 0) hx hb dX10_firstTop_6 (by decide) ?_
  have J8 : ∀ (n : Nat) (j8_L3 : Int32) (locs : List Loc) (ls : Array Slot), (8 - j8_L3.toInt).toNat < n → iv j8_L3 0 8 → va_S (pW Y []) s.heap s.heap locs → lv_has ls 4 [(0, .ref a0), (1, .int x1), (2, .int v2), (3, .int j8_L3)] → W p l e R s m ([.ref a0, .int x1] : List Value).toArray below meth c s.heap locs 0 0 Q (F0 m 8 ls []) := by
    intro n
    induction n with
    | zero => intro j8_L3 locs ls hms; exact absurd hms (Nat.not_lt_zero _)
    | succ n ih8 =>
      intro j8_L3 locs ls hms8 hj8_L3 hS hl
      refine lv_iload_n hx hb dX10_firstTop_8 rfl (lv_at hl 3 rfl) ?_
      refine lv_aload_n hx hb dX10_firstTop_9 rfl (lv_at hl 0 rfl) ?_
      refine ti_calli (va_runV (As := []) (rest := [.int j8_L3]) ⟨hx, hb, hml, hown, hts⟩ (t_X10_people l hT ha0 hU) (cwV 0 hts (good_V kw_605 kw_606 kw_607 kw_5 kw_608) rfl rfl rfl (by decide +kernel) ⟨by rw [hR]; decide, by rw [hR]; decide⟩) (ti_preV hK hT ha0 rfl rfl) rfl rfl hl.1 rfl (lv_room (Nat.le_of_ble_eq_true rfl)) dX10_firstTop_10 ⟨Nat.zero_le _, Nat.zero_le _⟩) hS (pW_sub rfl) (fun v10 H1 locs hB hS _ hk10 => ?_)
      obtain ⟨hH, hv10, hp10⟩ := hB
      rw [hH] at hS ⊢
      refine lv_icmp_ge (tgt := 39) hx hb dX10_firstTop_13 (by decide) (fun c13 => ?_) (fun c13 => ?_)
      · skip
        have f13 := i_le c13
        refine lv_iconst (v := (-1)) hx hb dX10_firstTop_39 (by decide) ?_
        exact ret _ _ _ _ _ dX10_firstTop_40 (⟨rfl, iv_w (iv_c (x := (-1 : Int32)) (k := (-1)) (by decide)) (by decide)⟩) hS
      · skip
        have f13 := i_nle c13
        have hj8_L3_13l : iv j8_L3 0 7 := iv_ltl hj8_L3 hv10 (Int32.not_le.mp c13) (by decide)
        have hv10_13r : iv v10 1 8 := iv_ltr hj8_L3_13l hv10 (Int32.not_le.mp c13) (by decide)
        refine lv_iload_n hx hb dX10_firstTop_16 rfl (lv_at hl 3 rfl) ?_
        refine lv_iload_n hx hb dX10_firstTop_17 rfl (lv_at hl 1 rfl) ?_
        have J33 : ∀  (locs : List Loc) (ls : Array Slot), va_S (pW Y []) s.heap s.heap locs → lv_has ls 4 [(0, .ref a0), (1, .int x1), (2, .int v2), (3, .int j8_L3)] → W p l e R s m ([.ref a0, .int x1] : List Value).toArray below meth c s.heap locs 0 0 Q (F0 m 33 ls []) := by
          intro  locs ls  hS hl
          obtain ⟨v33, e33⟩ : ∃ y : Int32, y = j8_L3 + 1 := ⟨_, rfl⟩
          have hv33 : iv v33 1 8 := by rw [e33]; exact iv_w (iv_add hj8_L3_13l (iv_c (x := (1 : Int32)) (k := 1) (by decide)) (by decide)) (by decide)
          have s33 : v33.toInt = j8_L3.toInt + 1 := by rw [e33, iv_addE hj8_L3_13l (iv_c (x := (1 : Int32)) (k := 1) (by decide)) (by decide)]; rfl
          refine lv_iinc (v := v33) (lv' := [(3, .int v33), (0, .ref a0), (1, .int x1), (2, .int v2)]) hx hb dX10_firstTop_33 hl (k := 3) rfl (by rw [e33]; rfl) (by decide) rfl (fun ls hl => ?_)
          refine lv_goto (tgt := 8) hx hb dX10_firstTop_36 (by decide) ?_
          exact ih8 v33 _ _ (ms_up hms8 (by have := s33; omega) (iv_w (c := 1) (d := 8) hv33 (by decide)).2) (iv_w hv33 (by decide))  hS (lv_sub hl [1, 2, 3, 0] rfl)
        refine lv_icmp_eq (tgt := 33) hx hb dX10_firstTop_18 (by decide) (fun c18 => ?_) (fun c18 => ?_)
        · skip
          have f18 := i_eq c18
          exact J33  _ _    hS (lv_sub hl [0, 1, 2, 3] rfl)
        · skip
          have f18 := i_ne c18
          refine lv_aload_n hx hb dX10_firstTop_21 rfl (lv_at hl 0 rfl) ?_
          refine lv_iload_n hx hb dX10_firstTop_22 rfl (lv_at hl 1 rfl) ?_
          refine lv_iload_n hx hb dX10_firstTop_23 rfl (lv_at hl 3 rfl) ?_
          refine ti_calli (va_runV (As := [.int x1, .int j8_L3]) (rest := []) ⟨hx, hb, hml, hown, hts⟩ (t_X10_sees l hT ha0 (iv_w hx1 (by decide)) (iv_w hj8_L3_13l (by decide)) hU) (cwV 2 hts (good_V kw_549 kw_550 kw_551 kw_5 kw_552) rfl rfl rfl (by decide +kernel) ⟨by rw [hR]; decide, by rw [hR]; decide⟩) (ti_preV hK hT ha0 rfl rfl) rfl rfl hl.1 rfl (lv_room (Nat.le_of_ble_eq_true rfl)) dX10_firstTop_24 ⟨Nat.zero_le _, Nat.zero_le _⟩) hS (pW_sub rfl) (fun v24 H1 locs hB hS _ hk24 => ?_)
          have hH := hB
          rw [hH] at hS ⊢
          refine lv_iload_n hx hb dX10_firstTop_27 rfl (lv_at hl 2 rfl) ?_
          refine lv_icmp_ne (tgt := 33) hx hb dX10_firstTop_28 (by decide) (fun c28 => ?_) (fun c28 => ?_)
          · skip
            have f28 := i_ne c28
            exact J33  _ _    hS (lv_sub hl [0, 1, 2, 3] rfl)
          · skip
            have f28 := i_eq c28
            have hv24_28l : iv v24 0 2147483647 := iv_eql (iv_top v24) hv2 c28 (by decide)
            refine lv_iload_n hx hb dX10_firstTop_31 rfl (lv_at hl 3 rfl) ?_
            exact ret _ _ _ _ _ dX10_firstTop_32 (⟨rfl, iv_w hj8_L3_13l (by decide)⟩) hS
  refine lv_istore_n (lv' := [(3, .int (0 : Int32)), (2, .int v2), (0, .ref a0), (1, .int x1)]) hx hb dX10_firstTop_7 rfl hl (by decide) rfl (fun ls hl => ?_)
  exact J8 _ (0 : Int32) _ _ (Nat.lt_succ_self _) (iv_w (iv_c (x := (0 : Int32)) (k := 0) (by decide)) (by decide))  hS (lv_sub hl [2, 3, 1, 0] rfl)
