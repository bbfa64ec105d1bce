set_option maxHeartbeats 4000000 in
set_option maxRecDepth 100000 in
theorem t_X6_isAt (l : Launch) {D : va_G} {c0 : Nat → ClassId} {Y : Nat → Option Nat} {ν : Nat → Nat} {adK adV : Nat → Nat} {H : Heap} (hT : TI D vwCl (tysOf c0) (RTg ν) Y H) {a0 : Nat} (ha0 : Y a0 = some 6) {si1 : Nat} (hsi1 : si1 < 26) : Met l yX6_isAt (wz yX6_isAt cX6_isAt 3 (some .boolean)) { frames := 4, cells := 0, slots := 0, locals := 85 } (TPs D (tysOf c0) Y adK adV H [.ref a0, .ref (adK si1)]) (TQi (fun x H' => H' = H ∧ iv x 0 1) Y []) 0 0 (pW Y []) := by
  refine Met.ofW (cc := cX6_isAt) (maxL := 3) (ret := (some .boolean)) (by decide) rfl ?_
  intro p e s m args below meth c s₁ B hml hv
  obtain ⟨rfl, rfl, hK, hSO⟩ := hv
  have hx := B.exec
  have hb := B.bytes
  have hr := B.returns
  have hts : ∀ w ∈ wq, w.before _ s = true := fun w h => atoms_spec (ws := wz yX6_isAt cX6_isAt 3 (some .boolean)) B.pre w (List.mem_cons_of_mem _ h)
  have hown : s.vm.findClass RX6 = some m.cls := findClass_of_methodNamed B.named
  have hlocks := B.notSynchronized
  obtain ⟨R, hR⟩ : ∃ R : Room, R = ({ frames := 4, cells := 0, slots := 0, locals := 85 } : Room) := ⟨_, rfl⟩
  rw [show (headSpec (wz yX6_isAt cX6_isAt 3 (some .boolean)) { frames := 4, cells := 0, slots := 0, locals := 85 }).room = R from hR.symm]
  refine ti_mz hx hb hr hlocks (fun Q ret => ?_)
  have hl := lv_entry [.ref a0, .ref (adK si1)] (n := 3) (Nat.le_of_ble_eq_true rfl)
  rw [lg_entry_eq]
  generalize (lg_sl [.ref a0, .ref (adK si1)] ++ List.replicate (3 - (lg_sl [.ref a0, .ref (adK si1)]).length) Slot.unset).toArray = ls at hl ⊢
  have hl : lv_has ls 3 [(0, .ref a0), (1, .ref (adK si1))] := hl
  have hS : va_S (pW Y []) s.heap s.heap [] := va_S.rf
  refine lv_aload_n hx hb dX6_isAt_0 rfl (lv_at hl 0 rfl) ?_
  refine ti_geti hx hb hts inlX6 hown hK hT ha0 rfl rfl rfl 3 (by decide) (hts _ kw_199) (fun _ h9 => h9) rfl dX6_isAt_1 (fun v1 hv1 hm1 => ?_)
  refine lv_iconst (v := 1) hx hb dX6_isAt_4 (by decide) ?_
  refine lv_icmp_ne (tgt := 24) hx hb dX6_isAt_5 (by decide) (fun c5 => ?_) (fun c5 => ?_)
  · skip
    have kl1 : (1 : Int32).toInt = 1 := by decide
    have f5 := i_ne c5
    refine lv_iconst (v := 0) hx hb dX6_isAt_24 (by decide) ?_
    exact ret _ _ _ _ _ dX6_isAt_25 (iv_w (iv_c (x := (0 : Int32)) (k := 0) (by decide)) (by decide)) (⟨rfl, iv_w (iv_c (x := (0 : Int32)) (k := 0) (by decide)) (by decide)⟩) hS
  · skip
    have kl1 : (1 : Int32).toInt = 1 := by decide
    have f5 := i_eq c5
    have hv1_5l : iv v1 1 1 := iv_eql hv1 (iv_c (x := (1 : Int32)) (k := 1) (by decide)) c5 (by decide)
    refine lv_aload_n hx hb dX6_isAt_8 rfl (lv_at hl 0 rfl) ?_
    refine ti_geti hx hb hts inlX6 hown hK hT ha0 rfl rfl rfl 5 (by decide) (hts _ kw_194) (fun _ h9 => h9) rfl dX6_isAt_9 (fun v9 hv9 hm9 => ?_)
    refine lv_aload_n hx hb dX6_isAt_12 rfl (lv_at hl 0 rfl) ?_
    refine ti_geti hx hb hts inlX6 hown hK hT ha0 rfl rfl rfl 4 (by decide) (hts _ kw_207) (fun _ h9 => h9) rfl dX6_isAt_13 (fun v13 hv13 hm13 => ?_)
    refine lv_isub hx hb dX6_isAt_16 ?_
    refine lv_topi (fun v16 e16 => ?_)
    have hv16 : iv v16 (-1600) 1600 := by rw [e16]; exact iv_w (iv_sub hv9 hv13 (by decide)) (by decide)
    have s16 : v16.toInt = v9.toInt - v13.toInt := by rw [e16]; exact iv_subE hv9 hv13 (by decide)
    refine lv_aload_n hx hb dX6_isAt_17 rfl (lv_at hl 1 rfl) ?_
    refine ti_calli (va_runV (As := []) (rest := [.int v16]) ⟨hx, hb, hml, hown, hts⟩ (t_length l hsi1) (cwV 0 hts (good_V kw_225 kw_226 kw_227 kw_228 kw_229) rfl rfl rfl (by decide +kernel) ⟨by rw [hR]; decide, by rw [hR]; decide⟩) (ts_preK hK hSO hS hsi1) rfl rfl hl.1 rfl (lv_room (Nat.le_of_ble_eq_true rfl)) dX6_isAt_18 ⟨Nat.zero_le _, Nat.zero_le _⟩) hS (pW_sub rfl) (fun v18 H1 locs hB hS _ hk18 => ?_)
    obtain ⟨hH, e18⟩ := hB
    rw [hH] at hS ⊢
    have s18 : v18.toInt = (lenS.getD si1 0 : Int) := by rw [e18]; exact nI_toInt (Nat.lt_trans (lenS_lt _ hsi1) (by decide))
    have hv18 : iv v18 0 10 := by have := lenS_lt _ hsi1; exact ⟨by omega, by omega⟩
    refine lv_icmp_eq (tgt := 26) hx hb dX6_isAt_21 (by decide) (fun c21 => ?_) (fun c21 => ?_)
    · skip
      have f21 := i_eq c21
      have hv16_21l : iv v16 0 10 := iv_eql hv16 hv18 c21 (by decide)
      refine lv_iconst (v := 0) hx hb dX6_isAt_26 (by decide) ?_
      have J28 : ∀ (n : Nat) (j28_L2 : Int32) (locs : List Loc) (ls : Array Slot), (10 - j28_L2.toInt).toNat < n → iv j28_L2 0 10 → va_S (pW Y []) s.heap s.heap locs → lv_has ls 3 [(0, .ref a0), (1, .ref (adK si1)), (2, .int j28_L2)] → W p l e R s m ([.ref a0, .ref (adK si1)] : List Value).toArray below meth c s.heap locs 0 0 Q (F0 m 28 ls []) := by
        intro n
        induction n with
        | zero => intro j28_L2 locs ls hms; exact absurd hms (Nat.not_lt_zero _)
        | succ n ih28 =>
          intro j28_L2 locs ls hms28 hj28_L2 hS hl
          refine lv_iload_n hx hb dX6_isAt_28 rfl (lv_at hl 2 rfl) ?_
          refine lv_aload_n hx hb dX6_isAt_29 rfl (lv_at hl 1 rfl) ?_
          refine ti_calli (va_runV (As := []) (rest := [.int j28_L2]) ⟨hx, hb, hml, hown, hts⟩ (t_length l hsi1) (cwV 0 hts (good_V kw_225 kw_226 kw_227 kw_228 kw_229) rfl rfl rfl (by decide +kernel) ⟨by rw [hR]; decide, by rw [hR]; decide⟩) (ts_preK hK hSO hS hsi1) rfl rfl hl.1 rfl (lv_room (Nat.le_of_ble_eq_true rfl)) dX6_isAt_30 ⟨Nat.zero_le _, Nat.zero_le _⟩) hS (pW_sub rfl) (fun v30 H1 locs hB hS _ hk30 => ?_)
          obtain ⟨hH, e30⟩ := hB
          rw [hH] at hS ⊢
          have s30 : v30.toInt = (lenS.getD si1 0 : Int) := by rw [e30]; exact nI_toInt (Nat.lt_trans (lenS_lt _ hsi1) (by decide))
          have hv30 : iv v30 0 10 := by have := lenS_lt _ hsi1; exact ⟨by omega, by omega⟩
          refine lv_icmp_ge (tgt := 76) hx hb dX6_isAt_33 (by decide) (fun c33 => ?_) (fun c33 => ?_)
          · skip
            have f33 := i_le c33
            refine lv_iconst (v := 1) hx hb dX6_isAt_76 (by decide) ?_
            exact ret _ _ _ _ _ dX6_isAt_77 (iv_w (iv_c (x := (1 : Int32)) (k := 1) (by decide)) (by decide)) (⟨rfl, iv_w (iv_c (x := (1 : Int32)) (k := 1) (by decide)) (by decide)⟩) hS
          · skip
            have f33 := i_nle c33
            have hj28_L2_33l : iv j28_L2 0 9 := iv_ltl hj28_L2 hv30 (Int32.not_le.mp c33) (by decide)
            have hv30_33r : iv v30 1 10 := iv_ltr hj28_L2_33l hv30 (Int32.not_le.mp c33) (by decide)
            refine lv_aload_n hx hb dX6_isAt_36 rfl (lv_at hl 0 rfl) ?_
            refine ti_getE (ci := 6) (v := .int v13) hx hb hts inlX6 hown hK hm13 rfl (by decide) (hts _ kw_207) (fun _ h9 => h9) dX6_isAt_37 ?_
            refine lv_iload_n hx hb dX6_isAt_40 rfl (lv_at hl 2 rfl) ?_
            refine lv_iadd hx hb dX6_isAt_41 ?_
            refine lv_topi (fun v41 e41 => ?_)
            have hv41 : iv v41 0 1609 := by rw [e41]; exact iv_w (iv_add hv13 hj28_L2_33l (by decide)) (by decide)
            have s41 : v41.toInt = v13.toInt + j28_L2.toInt := by rw [e41]; exact iv_addE hv13 hj28_L2_33l (by decide)
            refine lv_aload_n hx hb dX6_isAt_42 rfl (lv_at hl 0 rfl) ?_
            refine ti_geti hx hb hts inlX6 hown hK hT ha0 rfl rfl rfl 1 (by decide) (hts _ kw_167) (fun _ h9 => h9) rfl dX6_isAt_43 (fun v43 hv43 hm43 => ?_)
            refine lv_icmp_ge (tgt := 76) hx hb dX6_isAt_46 (by decide) (fun c46 => ?_) (fun c46 => ?_)
            · skip
              have f46 := i_le c46
              refine lv_iconst (v := 1) hx hb dX6_isAt_76 (by decide) ?_
              exact ret _ _ _ _ _ dX6_isAt_77 (iv_w (iv_c (x := (1 : Int32)) (k := 1) (by decide)) (by decide)) (⟨rfl, iv_w (iv_c (x := (1 : Int32)) (k := 1) (by decide)) (by decide)⟩) hS
            · skip
              have f46 := i_nle c46
              have hv41_46l : iv v41 0 1599 := iv_ltl hv41 hv43 (Int32.not_le.mp c46) (by decide)
              have hv43_46r : iv v43 1 1600 := iv_ltr hv41_46l hv43 (Int32.not_le.mp c46) (by decide)
              have hq46_32 : iv v13 0 1599 := by have b0a := (hv41_46l).1; have b0b := (hv41_46l).2; have b1a := (hv13).1; have b1b := (hv13).2; have b2a := (hj28_L2_33l).1; have b2b := (hj28_L2_33l).2; exact ⟨by omega, by omega⟩
              refine lv_aload_n hx hb dX6_isAt_49 rfl (lv_at hl 0 rfl) ?_
              refine ti_getr hx hb hts inlX6 hown hK hT ha0 rfl rfl rfl 0 (by decide) (hts _ kw_48) (fun _ h9 => h9) rfl dX6_isAt_50 (fun v50 hv50 hm50 => ?_)
              refine lv_aload_n hx hb dX6_isAt_53 rfl (lv_at hl 0 rfl) ?_
              refine ti_getE (ci := 6) (v := .int v13) hx hb hts inlX6 hown hK hm13 rfl (by decide) (hts _ kw_207) (fun _ h9 => h9) dX6_isAt_54 ?_
              refine lv_iload_n hx hb dX6_isAt_57 rfl (lv_at hl 2 rfl) ?_
              refine lv_iadd hx hb dX6_isAt_58 ?_
              refine lv_topi (fun v58 e58 => ?_)
              have hv58 : iv v58 0 1608 := by rw [e58]; exact iv_w (iv_add hq46_32 hj28_L2_33l (by decide)) (by decide)
              have s58 : v58.toInt = v13.toInt + j28_L2.toInt := by rw [e58]; exact iv_addE hq46_32 hj28_L2_33l (by decide)
              have hq58_33 : iv v58 0 1599 := by have b0a := (hv58).1; have b0b := (hv58).2; have b1a := (hv41_46l).1; have b1b := (hv41_46l).2; exact ⟨by omega, by omega⟩
              refine ti_bald (lo := (-128)) (hi := 127) hx hb (aT1 hK) hT hv50 rfl hq58_33 (by decide) (fun _ _ _ => ⟨_, _, rfl, by decide, by decide⟩) dX6_isAt_59 (fun v59 hv59 hm59 => ?_)
              refine lv_aload_n hx hb dX6_isAt_60 rfl (lv_at hl 1 rfl) ?_
              refine lv_iload_n hx hb dX6_isAt_61 rfl (lv_at hl 2 rfl) ?_
              refine ti_calli (va_runV (As := [.int j28_L2]) (rest := [.int v59]) ⟨hx, hb, hml, hown, hts⟩ (t_charAt l hsi1 (by have b0a := (hv1_5l).1; have b0b := (hv1_5l).2; have b1a := (hv9).1; have b1b := (hv9).2; have b2a := (hq46_32).1; have b2b := (hq46_32).2; have b3a := (hv16_21l).1; have b3b := (hv16_21l).2; have b4a := (hv18).1; have b4b := (hv18).2; have b5a := (hj28_L2_33l).1; have b5b := (hj28_L2_33l).2; have b6a := (hv30_33r).1; have b6b := (hv30_33r).2; have b7a := (hv41_46l).1; have b7b := (hv41_46l).2; have b8a := (hv43_46r).1; have b8b := (hv43_46r).2; have b9a := (hq58_33).1; have b9b := (hq58_33).2; have b10a := (hv59).1; have b10b := (hv59).2; omega) (by have b0a := (hv1_5l).1; have b0b := (hv1_5l).2; have b1a := (hv9).1; have b1b := (hv9).2; have b2a := (hq46_32).1; have b2b := (hq46_32).2; have b3a := (hv16_21l).1; have b3b := (hv16_21l).2; have b4a := (hv18).1; have b4b := (hv18).2; have b5a := (hj28_L2_33l).1; have b5b := (hj28_L2_33l).2; have b6a := (hv30_33r).1; have b6b := (hv30_33r).2; have b7a := (hv41_46l).1; have b7b := (hv41_46l).2; have b8a := (hv43_46r).1; have b8b := (hv43_46r).2; have b9a := (hq58_33).1; have b9b := (hq58_33).2; have b10a := (hv59).1; have b10b := (hv59).2; omega)) (cwV 1 hts (good_V kw_237 kw_238 kw_239 kw_228 kw_240) rfl rfl rfl (by decide +kernel) ⟨by rw [hR]; decide, by rw [hR]; decide⟩) (ts_preK hK hSO hS hsi1) rfl rfl hl.1 rfl (lv_room (Nat.le_of_ble_eq_true rfl)) dX6_isAt_62 ⟨Nat.zero_le _, Nat.zero_le _⟩) hS (pW_sub rfl) (fun v62 H1 locs hB hS _ hk62 => ?_)
              obtain ⟨hH, e62⟩ := hB
              rw [hH] at hS ⊢
              have hv62 : iv v62 0 255 := by rw [e62]; exact iv_and (iv_w (iv_c (x := (255 : Int32)) (k := 255) (by decide)) (by decide))
              refine lv_icmp_eq (tgt := 70) hx hb dX6_isAt_65 (by decide) (fun c65 => ?_) (fun c65 => ?_)
              · skip
                have f65 := i_eq c65
                have hv59_65l : iv v59 0 127 := iv_eql hv59 hv62 c65 (by decide)
                have hv62_65r : iv v62 0 127 := iv_eql hv62 hv59_65l (Eq.symm c65) (by decide)
                obtain ⟨v70, e70⟩ : ∃ y : Int32, y = j28_L2 + 1 := ⟨_, rfl⟩
                have hv70 : iv v70 1 10 := by rw [e70]; exact iv_w (iv_add hj28_L2_33l (iv_c (x := (1 : Int32)) (k := 1) (by decide)) (by decide)) (by decide)
                have s70 : v70.toInt = j28_L2.toInt + 1 := by rw [e70, iv_addE hj28_L2_33l (iv_c (x := (1 : Int32)) (k := 1) (by decide)) (by decide)]; rfl
                refine lv_iinc (v := v70) (lv' := [(2, .int v70), (0, .ref a0), (1, .ref (adK si1))]) hx hb dX6_isAt_70 hl (k := 2) rfl (by rw [e70]; rfl) (by decide) rfl (fun ls hl => ?_)
                refine lv_goto (tgt := 28) hx hb dX6_isAt_73 (by decide) ?_
                exact ih28 v70 _ _ (ms_up hms28 (by have := s70; omega) (iv_w (c := 1) (d := 10) hv70 (by decide)).2) (iv_w hv70 (by decide))  hS (lv_sub hl [1, 2, 0] rfl)
              · skip
                have f65 := i_ne c65
                refine lv_iconst (v := 0) hx hb dX6_isAt_68 (by decide) ?_
                exact ret _ _ _ _ _ dX6_isAt_69 (iv_w (iv_c (x := (0 : Int32)) (k := 0) (by decide)) (by decide)) (⟨rfl, iv_w (iv_c (x := (0 : Int32)) (k := 0) (by decide)) (by decide)⟩) hS
      refine lv_istore_n (lv' := [(2, .int (0 : Int32)), (0, .ref a0), (1, .ref (adK si1))]) hx hb dX6_isAt_27 rfl hl (by decide) rfl (fun ls hl => ?_)
      exact J28 _ (0 : Int32) _ _ (Nat.lt_succ_self _) (iv_w (iv_c (x := (0 : Int32)) (k := 0) (by decide)) (by decide))  hS (lv_sub hl [1, 2, 0] rfl)
    · skip
      have f21 := i_ne c21
      refine lv_iconst (v := 0) hx hb dX6_isAt_24 (by decide) ?_
      exact ret _ _ _ _ _ dX6_isAt_25 (iv_w (iv_c (x := (0 : Int32)) (k := 0) (by decide)) (by decide)) (⟨rfl, iv_w (iv_c (x := (0 : Int32)) (k := 0) (by decide)) (by decide)⟩) hS
set_option maxHeartbeats 4000000 in
set_option maxRecDepth 100000 in
theorem t_X6_take (l : Launch) {D : va_G} {c0 : Nat → ClassId} {Y : Nat → Option Nat} {ν : Nat → Nat} {adK adV : Nat → Nat} {H : Heap} (hT : TI D vwCl (tysOf c0) (RTg ν) Y H) {a0 : Nat} (ha0 : Y a0 = some 6) {si1 : Nat} (hsi1 : si1 < 26) {m0 : Int32} (hm0 : fi D vwCl a0 6 10 (.int m0) H) (hmi0 : iv m0 (-2147483648) 2147483647) : Met l yX6_take (wz yX6_take cX6_take 2 none) { frames := 5, cells := 0, slots := 0, locals := 107 } (TPs D (tysOf c0) Y adK adV H [.ref a0, .ref (adK si1)]) (TQv (fun H' => TI D vwCl (tysOf c0) (RTg ν) Y H' ∧ (∃ w0 : Int32, fi D vwCl a0 6 10 (.int w0) H' ∧ iv w0 (-2147483648) 2147483647 ∧ (¬ m0.toInt = 0 → ¬ w0.toInt = 0))) Y [6]) 0 0 (pW Y [6]) := by
  refine Met.ofW (cc := cX6_take) (maxL := 2) (ret := none) (by decide) rfl ?_
  intro p e s m args below meth c s₁ B hml hv
  obtain ⟨rfl, rfl, hK, hSO⟩ := hv
  have hx := B.exec
  have hb := B.bytes
  have hr := B.returns
  have hts : ∀ w ∈ wq, w.before _ s = true := fun w h => atoms_spec (ws := wz yX6_take cX6_take 2 none) B.pre w (List.mem_cons_of_mem _ h)
  have hown : s.vm.findClass RX6 = some m.cls := findClass_of_methodNamed B.named
  have hlocks := B.notSynchronized
  obtain ⟨R, hR⟩ : ∃ R : Room, R = ({ frames := 5, cells := 0, slots := 0, locals := 107 } : Room) := ⟨_, rfl⟩
  rw [show (headSpec (wz yX6_take cX6_take 2 none) { frames := 5, cells := 0, slots := 0, locals := 107 }).room = R from hR.symm]
  refine ti_mv hx hb hr hlocks (fun Q ret => ?_)
  have hl := lv_entry [.ref a0, .ref (adK si1)] (n := 2) (Nat.le_of_ble_eq_true rfl)
  rw [lg_entry_eq]
  generalize (lg_sl [.ref a0, .ref (adK si1)] ++ List.replicate (2 - (lg_sl [.ref a0, .ref (adK si1)]).length) Slot.unset).toArray = ls at hl ⊢
  have hl : lv_has ls 2 [(0, .ref a0), (1, .ref (adK si1))] := hl
  refine ti_gen (P := fun H => TI D vwCl (tysOf c0) (RTg ν) Y H ∧ fi D vwCl a0 6 10 (.int m0) H) (Y := Y) (ws := [6]) ⟨hT, hm0⟩ (fun H locs hT hS => ?_)
  clear hm0
  obtain ⟨hT, hm0⟩ := hT
  refine lv_aload_n hx hb dX6_take_0 rfl (lv_at hl 0 rfl) ?_
  refine ti_getE (ci := 6) (v := .int m0) hx hb hts inlX6 hown hK hm0 rfl (by decide) (hts _ kw_198) (fun _ h9 => h9) dX6_take_1 ?_
  have J22 : ∀  (H : Heap) (locs : List Loc) (ls : Array Slot), fi D vwCl a0 6 10 (.int m0) H → TI D vwCl (tysOf c0) (RTg ν) Y H → va_S (pW Y [6]) s.heap H locs → lv_has ls 2 [(0, .ref a0), (1, .ref (adK si1))] → W p l e R s m ([.ref a0, .ref (adK si1)] : List Value).toArray below meth c H locs 0 0 Q (F0 m 22 ls []) := by
    intro  H locs ls hM22_a0_10 hT hS hl
    refine lv_aload_n hx hb dX6_take_22 rfl (lv_at hl 0 rfl) ?_
    refine lv_iconst (v := 1) hx hb dX6_take_23 (by decide) ?_
    refine ti_callv (va_runV (As := [.int (1 : Int32)]) (rest := []) ⟨hx, hb, hml, hown, hts⟩ (t_X6_fail l hT ha0 (iv_w (iv_c (x := (1 : Int32)) (k := 1) (by decide)) (by decide))) (cwV 1 hts (good_V kw_274 kw_275 kw_276 kw_15 kw_277) rfl rfl rfl (by decide +kernel) ⟨by rw [hR]; decide, by rw [hR]; decide⟩) (ti_preV hK hT ha0 rfl rfl) rfl rfl hl.1 rfl (lv_room (Nat.le_of_ble_eq_true rfl)) dX6_take_24 ⟨Nat.zero_le _, Nat.zero_le _⟩) hS (pW_sub rfl) (fun H locs hB hS _ hk24 => ?_)
    obtain ⟨hT, ⟨w24_0, hw24_0, hwi24_0, hwp24_0⟩⟩ := hB
    exact ret _ _ _ _ dX6_take_27 (⟨hT, ⟨w24_0, hw24_0, iv_w hwi24_0 (by decide), (by have b0a := (hmi0).1; have b0b := (hmi0).2; have b1a := (hwi24_0).1; have b1b := (hwi24_0).2; omega)⟩⟩) hS
  refine lv_if_ne (tgt := 22) hx hb dX6_take_4 (by decide) (fun c4 => ?_) (fun c4 => ?_)
  · skip
    have kl0 : (0 : Int32).toInt = 0 := by decide
    have f4 := i_ne c4
    exact J22  _ _ _  hm0 hT hS (lv_sub hl [0, 1] rfl)
  · skip
    have kl0 : (0 : Int32).toInt = 0 := by decide
    have f4 := i_eq c4
    have hm0_4l : iv m0 0 0 := iv_eql hmi0 (iv_c (x := (0 : Int32)) (k := 0) (by decide)) c4 (by decide)
    refine lv_aload_n hx hb dX6_take_7 rfl (lv_at hl 0 rfl) ?_
    refine lv_aload_n hx hb dX6_take_8 rfl (lv_at hl 1 rfl) ?_
    refine ti_calli (va_runV (As := [.ref (adK si1)]) (rest := []) ⟨hx, hb, hml, hown, hts⟩ (t_X6_isAt l hT ha0 hsi1) (cwV 1 hts (good_V kw_221 kw_222 kw_223 kw_15 kw_224) rfl rfl rfl (by decide +kernel) ⟨by rw [hR]; decide, by rw [hR]; decide⟩) (ts_preV hK hSO hS hT ha0 rfl rfl) rfl rfl hl.1 rfl (lv_room (Nat.le_of_ble_eq_true rfl)) dX6_take_9 ⟨Nat.zero_le _, Nat.zero_le _⟩) hS (pW_sub rfl) (fun v9 H1 locs hB hS _ hk9 => ?_)
    obtain ⟨hH, hv9⟩ := hB
    rw [hH] at hS ⊢
    refine lv_if_eq (tgt := 22) hx hb dX6_take_12 (by decide) (fun c12 => ?_) (fun c12 => ?_)
    · skip
      have f12 := i_eq c12
      have hv9_12l : iv v9 0 0 := iv_eql hv9 (iv_c (x := (0 : Int32)) (k := 0) (by decide)) c12 (by decide)
      exact J22  _ _ _  hm0 hT hS (lv_sub hl [0, 1] rfl)
    · skip
      have f12 := i_ne c12
      have hv9_12l : iv v9 1 1 := iv_nel hv9 (iv_c (x := (0 : Int32)) (k := 0) (by decide)) c12 (by decide)
      refine lv_aload_n hx hb dX6_take_15 rfl (lv_at hl 0 rfl) ?_
      refine ti_callv (va_runV (As := []) (rest := []) ⟨hx, hb, hml, hown, hts⟩ (t_X6_advance l hT ha0 hm0 (iv_w hm0_4l (by decide))) (cwV 0 hts (good_V kw_203 kw_204 kw_205 kw_15 kw_206) rfl rfl rfl (by decide +kernel) ⟨by rw [hR]; decide, by rw [hR]; decide⟩) (ti_preV hK hT ha0 rfl rfl) rfl rfl hl.1 rfl (lv_room (Nat.le_of_ble_eq_true rfl)) dX6_take_16 ⟨Nat.zero_le _, Nat.zero_le _⟩) hS (pW_sub rfl) (fun H locs hB hS _ hk16 => ?_)
      obtain ⟨hT, ⟨w16_0, hw16_0, hwi16_0, hwp16_0⟩⟩ := hB
      refine lv_goto (tgt := 27) hx hb dX6_take_19 (by decide) ?_
      exact ret _ _ _ _ dX6_take_27 (⟨hT, ⟨w16_0, hw16_0, iv_w hwi16_0 (by decide), (by have b0a := (hm0_4l).1; have b0b := (hm0_4l).2; have b1a := (hv9_12l).1; have b1b := (hv9_12l).2; have b2a := (hwi16_0).1; have b2b := (hwi16_0).2; omega)⟩⟩) hS
set_option maxHeartbeats 4000000 in
set_option maxRecDepth 100000 in
theorem t_X6_takeNamed (l : Launch) {D : va_G} {c0 : Nat → ClassId} {Y : Nat → Option Nat} {ν : Nat → Nat} {adK adV : Nat → Nat} {H : Heap} (hT : TI D vwCl (tysOf c0) (RTg ν) Y H) {a0 : Nat} (ha0 : Y a0 = some 6) {si1 : Nat} (hsi1 : si1 < 26) {x2 : Int32} (hx2 : iv x2 0 5) {x3 : Int32} (hx3 : iv x3 (-2147483648) 100000) {m0 : Int32} (hm0 : fi D vwCl a0 6 10 (.int m0) H) (hmi0 : iv m0 (-2147483648) 2147483647) : Met l yX6_takeNamed (wz yX6_takeNamed cX6_takeNamed 4 (some .int)) { frames := 6, cells := 0, slots := 0, locals := 128 } (TPs D (tysOf c0) Y adK adV H [.ref a0, .ref (adK si1), .int x2, .int x3]) (TQi (fun x H' => TI D vwCl (tysOf c0) (RTg ν) Y H' ∧ iv x (-2147483648) 100000 ∧ (∃ w0 : Int32, fi D vwCl a0 6 10 (.int w0) H' ∧ iv w0 (-2147483648) 2147483647 ∧ ((¬ m0.toInt = 0 → ¬ w0.toInt = 0) ∧ (w0.toInt = 0 → x2.toInt ≤ x.toInt ∧ x.toInt ≤ x3.toInt)))) Y [6]) 0 0 (pW Y [6]) := by
  refine Met.ofW (cc := cX6_takeNamed) (maxL := 4) (ret := (some .int)) (by decide) rfl ?_
  intro p e s m args below meth c s₁ B hml hv
  obtain ⟨rfl, rfl, hK, hSO⟩ := hv
  have hx := B.exec
  have hb := B.bytes
  have hr := B.returns
  have hts : ∀ w ∈ wq, w.before _ s = true := fun w h => atoms_spec (ws := wz yX6_takeNamed cX6_takeNamed 4 (some .int)) B.pre w (List.mem_cons_of_mem _ h)
  have hown : s.vm.findClass RX6 = some m.cls := findClass_of_methodNamed B.named
  have hlocks := B.notSynchronized
  obtain ⟨R, hR⟩ : ∃ R : Room, R = ({ frames := 6, cells := 0, slots := 0, locals := 128 } : Room) := ⟨_, rfl⟩
  rw [show (headSpec (wz yX6_takeNamed cX6_takeNamed 4 (some .int)) { frames := 6, cells := 0, slots := 0, locals := 128 }).room = R from hR.symm]
  refine ti_mi hx hb hr hlocks (fun Q ret => ?_)
  have hl := lv_entry [.ref a0, .ref (adK si1), .int x2, .int x3] (n := 4) (Nat.le_of_ble_eq_true rfl)
  rw [lg_entry_eq]
  generalize (lg_sl [.ref a0, .ref (adK si1), .int x2, .int x3] ++ List.replicate (4 - (lg_sl [.ref a0, .ref (adK si1), .int x2, .int x3]).length) Slot.unset).toArray = ls at hl ⊢
  have hl : lv_has ls 4 [(0, .ref a0), (1, .ref (adK si1)), (2, .int x2), (3, .int x3)] := hl
  refine ti_gen (P := fun H => TI D vwCl (tysOf c0) (RTg ν) Y H ∧ fi D vwCl a0 6 10 (.int m0) H) (Y := Y) (ws := [6]) ⟨hT, hm0⟩ (fun H locs hT hS => ?_)
  clear hm0
  obtain ⟨hT, hm0⟩ := hT
  refine lv_aload_n hx hb dX6_takeNamed_0 rfl (lv_at hl 0 rfl) ?_
  refine lv_aload_n hx hb dX6_takeNamed_1 rfl (lv_at hl 1 rfl) ?_
  refine ti_callv (va_runV (As := [.ref (adK si1)]) (rest := []) ⟨hx, hb, hml, hown, hts⟩ (t_X6_take l hT ha0 hsi1 hm0 (iv_w hmi0 (by decide))) (cwV 1 hts (good_V kw_217 kw_218 kw_219 kw_15 kw_220) rfl rfl rfl (by decide +kernel) ⟨by rw [hR]; decide, by rw [hR]; decide⟩) (ts_preV hK hSO hS hT ha0 rfl rfl) rfl rfl hl.1 rfl (lv_room (Nat.le_of_ble_eq_true rfl)) dX6_takeNamed_2 ⟨Nat.zero_le _, Nat.zero_le _⟩) hS (pW_sub rfl) (fun H locs hB hS _ hk2 => ?_)
  obtain ⟨hT, ⟨w2_0, hw2_0, hwi2_0, hwp2_0⟩⟩ := hB
  refine lv_aload_n hx hb dX6_takeNamed_5 rfl (lv_at hl 0 rfl) ?_
  refine ti_getE (ci := 6) (v := .int w2_0) hx hb hts inlX6 hown hK hw2_0 rfl (by decide) (hts _ kw_198) (fun _ h9 => h9) dX6_takeNamed_6 ?_
  refine lv_if_ne (tgt := 21) hx hb dX6_takeNamed_9 (by decide) (fun c9 => ?_) (fun c9 => ?_)
  · skip
    have kl0 : (0 : Int32).toInt = 0 := by decide
    have f9 := i_ne c9
    refine lv_iconst (v := 0) hx hb dX6_takeNamed_21 (by decide) ?_
    exact ret _ _ _ _ _ dX6_takeNamed_22 (⟨hT, iv_w (iv_c (x := (0 : Int32)) (k := 0) (by decide)) (by decide), ⟨w2_0, hw2_0, iv_w hwi2_0 (by decide), (by have b0a := (hx2).1; have b0b := (hx2).2; have b1a := (hx3).1; have b1b := (hx3).2; have b2a := (hmi0).1; have b2b := (hmi0).2; have b3a := (hwi2_0).1; have b3b := (hwi2_0).2; omega)⟩⟩) hS
  · skip
    have kl0 : (0 : Int32).toInt = 0 := by decide
    have f9 := i_eq c9
    have hw2_0_9l : iv w2_0 0 0 := iv_eql hwi2_0 (iv_c (x := (0 : Int32)) (k := 0) (by decide)) c9 (by decide)
    refine lv_aload_n hx hb dX6_takeNamed_12 rfl (lv_at hl 0 rfl) ?_
    refine lv_iload_n hx hb dX6_takeNamed_13 rfl (lv_at hl 2 rfl) ?_
    refine lv_iload_n hx hb dX6_takeNamed_14 rfl (lv_at hl 3 rfl) ?_
    refine ti_calli (va_runV (As := [.int x2, .int x3]) (rest := []) ⟨hx, hb, hml, hown, hts⟩ (t_X6_takeNumber l hT ha0 (iv_w hx2 (by decide)) (iv_w hx3 (by decide)) hw2_0 (iv_w hw2_0_9l (by decide))) (cwV 2 hts (good_V kw_282 kw_283 kw_284 kw_15 kw_285) rfl rfl rfl (by decide +kernel) ⟨by rw [hR]; decide, by rw [hR]; decide⟩) (ti_preV hK hT ha0 rfl rfl) rfl rfl hl.1 rfl (lv_room (Nat.le_of_ble_eq_true rfl)) dX6_takeNamed_15 ⟨Nat.zero_le _, Nat.zero_le _⟩) hS (pW_sub rfl) (fun v15 H locs hB hS _ hk15 => ?_)
    obtain ⟨hT, hv15, ⟨w15_0, hw15_0, hwi15_0, hwp15_0⟩⟩ := hB
    refine lv_goto (tgt := 22) hx hb dX6_takeNamed_18 (by decide) ?_
    exact ret _ _ _ _ _ dX6_takeNamed_22 (⟨hT, iv_w hv15 (by decide), ⟨w15_0, hw15_0, iv_w hwi15_0 (by decide), (by have b0a := (hx2).1; have b0b := (hx2).2; have b1a := (hx3).1; have b1b := (hx3).2; have b2a := (hmi0).1; have b2b := (hmi0).2; have b3a := (hw2_0_9l).1; have b3b := (hw2_0_9l).2; have b4a := (hwi15_0).1; have b4b := (hwi15_0).2; have b5a := (hv15).1; have b5b := (hv15).2; omega)⟩⟩) hS
set_option maxHeartbeats 4000000 in
set_option maxRecDepth 100000 in
theorem t_X6_readFound (l : Launch) {D : va_G} {c0 : Nat → ClassId} {Y : Nat → Option Nat} {ν : Nat → Nat} {adK adV : Nat → Nat} {H : Heap} (hT : TI D vwCl (tysOf c0) (RTg ν) Y H) {a0 : Nat} (ha0 : Y a0 = some 6) : Met l yX6_readFound (wz yX6_readFound cX6_readFound 1 none) { frames := 7, cells := 0, slots := 0, locals := 151 } (TPs D (tysOf c0) Y adK adV H [.ref a0]) (TQv (fun H' => TI D vwCl (tysOf c0) (RTg ν) Y H') Y [0, 6]) 0 0 (pW Y [0, 6]) := by
  refine Met.ofW (cc := cX6_readFound) (maxL := 1) (ret := none) (by decide) rfl ?_
  intro p e s m args below meth c s₁ B hml hv
  obtain ⟨rfl, rfl, hK, hSO⟩ := hv
  have hx := B.exec
  have hb := B.bytes
  have hr := B.returns
  have hts : ∀ w ∈ wq, w.before _ s = true := fun w h => atoms_spec (ws := wz yX6_readFound cX6_readFound 1 none) B.pre w (List.mem_cons_of_mem _ h)
  have hown : s.vm.findClass RX6 = some m.cls := findClass_of_methodNamed B.named
  have hlocks := B.notSynchronized
  obtain ⟨R, hR⟩ : ∃ R : Room, R = ({ frames := 7, cells := 0, slots := 0, locals := 151 } : Room) := ⟨_, rfl⟩
  rw [show (headSpec (wz yX6_readFound cX6_readFound 1 none) { frames := 7, cells := 0, slots := 0, locals := 151 }).room = R from hR.symm]
  refine ti_mv hx hb hr hlocks (fun Q ret => ?_)
  have hl := lv_entry [.ref a0] (n := 1) (Nat.le_of_ble_eq_true rfl)
  rw [lg_entry_eq]
  generalize (lg_sl [.ref a0] ++ List.replicate (1 - (lg_sl [.ref a0]).length) Slot.unset).toArray = ls at hl ⊢
  have hl : lv_has ls 1 [(0, .ref a0)] := hl
  refine ti_gen (P := fun H => TI D vwCl (tysOf c0) (RTg ν) Y H) (Y := Y) (ws := [0, 6]) hT (fun H locs hT hS => ?_)
  refine lv_aload_n hx hb dX6_readFound_0 rfl (lv_at hl 0 rfl) ?_
  refine ti_geti hx hb hts inlX6 hown hK hT ha0 rfl rfl rfl 8 (by decide) (hts _ kw_196) (fun _ h9 => h9) rfl dX6_readFound_1 (fun v1 hv1 hm1 => ?_)
  have J12 : ∀  (H : Heap) (locs : List Loc) (ls : Array Slot), TI D vwCl (tysOf c0) (RTg ν) Y H → va_S (pW Y [0, 6]) s.heap H locs → lv_has ls 1 [(0, .ref a0)] → W p l e R s m ([.ref a0] : List Value).toArray below meth c H locs 0 0 Q (F0 m 12 ls []) := by
    intro  H locs ls  hT hS hl
    refine lv_aload_n hx hb dX6_readFound_12 rfl (lv_at hl 0 rfl) ?_
    refine lv_iconst (v := 1) hx hb dX6_readFound_13 (by decide) ?_
    refine ti_put (ty := .boolean) hx hb hts inlX6 tyX6 tyX6_ok nmX6 hown hK hT hS ha0 rfl rfl rfl rfl 8 (by decide) (hts _ kw_196) (fun _ h9 => h9) rfl rfl (by decide +kernel) (ti_nz (iv_w (iv_c (x := (1 : Int32)) (k := 1) (by decide)) (by decide))).1 (ti_nz (iv_w (iv_c (x := (1 : Int32)) (k := 1) (by decide)) (by decide))).2 ⟨(1 : Int32), rfl, iv_w (iv_c (x := (1 : Int32)) (k := 1) (by decide)) (by decide)⟩ (fun _ _ => trivial) dX6_readFound_14 (fun H locs hT hS oq14 he14 hk14 => ?_)
    refine lv_aload_n hx hb dX6_readFound_17 rfl (lv_at hl 0 rfl) ?_
    refine ti_getr hx hb hts inlX6 hown hK hT ha0 rfl rfl rfl 2 (by decide) (hts _ kw_50) (fun _ h9 => h9) rfl dX6_readFound_18 (fun v18 hv18 hm18 => ?_)
    refine ti_getr hx hb hts inlX7 hown hK hT hv18 rfl rfl rfl 6 (by decide) (hts _ kw_290) (fun _ h9 => h9) rfl dX6_readFound_21 (fun v21 hv21 hm21 => ?_)
    refine lv_aload_n hx hb dX6_readFound_24 rfl (lv_at hl 0 rfl) ?_
    refine va_ldcS (q := adK 25) hx hb hown (hSO.2.2.2 (RX6, 90, "found", 25) (by decide +kernel)) dX6_readFound_25 ?_
    refine lv_iconst (v := 0) hx hb dX6_readFound_27 (by decide) ?_
    refine lv_bipush (v := 100) hx hb dX6_readFound_28 (by decide) ?_
    obtain ⟨g30_10, hg30_10, hmg30_10⟩ := ti_fi hT ha0 rfl rfl rfl 10 rfl
    refine ti_calli (va_runV (As := [.ref (adK 25), .int (0 : Int32), .int (100 : Int32)]) (rest := [.ref v21]) ⟨hx, hb, hml, hown, hts⟩ (t_X6_takeNamed l hT ha0 (by decide) (iv_w (iv_c (x := (0 : Int32)) (k := 0) (by decide)) (by decide)) (iv_w (iv_c (x := (100 : Int32)) (k := 100) (by decide)) (by decide)) hmg30_10 (iv_w hg30_10 (by decide))) (cwV 3 hts (good_V kw_278 kw_279 kw_280 kw_15 kw_281) rfl rfl rfl (by decide +kernel) ⟨by rw [hR]; decide, by rw [hR]; decide⟩) (ts_preV hK hSO hS hT ha0 rfl rfl) rfl rfl hl.1 rfl (lv_room (Nat.le_of_ble_eq_true rfl)) dX6_readFound_30 ⟨Nat.zero_le _, Nat.zero_le _⟩) hS (pW_sub rfl) (fun v30 H locs hB hS _ hk30 => ?_)
    obtain ⟨hT, hv30, ⟨w30_0, hw30_0, hwi30_0, hwp30_0⟩⟩ := hB
    have kl0 : (0 : Int32).toInt = 0 := by decide
    have kl100 : (100 : Int32).toInt = 100 := by decide
    refine ti_put (ty := .int) hx hb hts inlX0 tyX0 tyX0_ok nmX0 hown hK hT hS hv21 rfl rfl rfl rfl 4 (by decide) (hts _ kw_337) (fun _ h9 => h9) rfl rfl (by decide +kernel) rfl rfl ⟨v30, rfl, iv_w hv30 (by decide)⟩ (fun _ _ => trivial) dX6_readFound_33 (fun H locs hT hS oq33 he33 hk33 => ?_)
    exact ret _ _ _ _ dX6_readFound_36 (hT) hS
  refine lv_if_eq (tgt := 12) hx hb dX6_readFound_4 (by decide) (fun c4 => ?_) (fun c4 => ?_)
  · skip
    have kl0 : (0 : Int32).toInt = 0 := by decide
    have f4 := i_eq c4
    have hv1_4l : iv v1 0 0 := iv_eql hv1 (iv_c (x := (0 : Int32)) (k := 0) (by decide)) c4 (by decide)
    exact J12  _ _ _   hT hS (lv_sub hl [0] rfl)
  · skip
    have kl0 : (0 : Int32).toInt = 0 := by decide
    have f4 := i_ne c4
    have hv1_4l : iv v1 1 1 := iv_nel hv1 (iv_c (x := (0 : Int32)) (k := 0) (by decide)) c4 (by decide)
    refine lv_aload_n hx hb dX6_readFound_7 rfl (lv_at hl 0 rfl) ?_
    refine lv_iconst (v := 2) hx hb dX6_readFound_8 (by decide) ?_
    refine ti_callv (va_runV (As := [.int (2 : Int32)]) (rest := []) ⟨hx, hb, hml, hown, hts⟩ (t_X6_fail l hT ha0 (iv_w (iv_c (x := (2 : Int32)) (k := 2) (by decide)) (by decide))) (cwV 1 hts (good_V kw_274 kw_275 kw_276 kw_15 kw_277) rfl rfl rfl (by decide +kernel) ⟨by rw [hR]; decide, by rw [hR]; decide⟩) (ti_preV hK hT ha0 rfl rfl) rfl rfl hl.1 rfl (lv_room (Nat.le_of_ble_eq_true rfl)) dX6_readFound_9 ⟨Nat.zero_le _, Nat.zero_le _⟩) hS (pW_sub rfl) (fun H locs hB hS _ hk9 => ?_)
    obtain ⟨hT, ⟨w9_0, hw9_0, hwi9_0, hwp9_0⟩⟩ := hB
    exact J12  _ _ _   hT hS (lv_sub hl [0] rfl)
set_option maxHeartbeats 4000000 in
set_option maxRecDepth 100000 in
theorem t_X6_takes (l : Launch) {D : va_G} {c0 : Nat → ClassId} {Y : Nat → Option Nat} {ν : Nat → Nat} {adK adV : Nat → Nat} {H : Heap} (hT : TI D vwCl (tysOf c0) (RTg ν) Y H) {a0 : Nat} (ha0 : Y a0 = some 6) {si1 : Nat} (hsi1 : si1 < 26) : Met l yX6_takes (wz yX6_takes cX6_takes 2 (some .boolean)) { frames := 5, cells := 0, slots := 0, locals := 107 } (TPs D (tysOf c0) Y adK adV H [.ref a0, .ref (adK si1)]) (TQi (fun x H' => TI D vwCl (tysOf c0) (RTg ν) Y H' ∧ iv x 0 1) Y [6]) 0 0 (pW Y [6]) := by
  refine Met.ofW (cc := cX6_takes) (maxL := 2) (ret := (some .boolean)) (by decide) rfl ?_
  intro p e s m args below meth c s₁ B hml hv
  obtain ⟨rfl, rfl, hK, hSO⟩ := hv
  have hx := B.exec
  have hb := B.bytes
  have hr := B.returns
  have hts : ∀ w ∈ wq, w.before _ s = true := fun w h => atoms_spec (ws := wz yX6_takes cX6_takes 2 (some .boolean)) B.pre w (List.mem_cons_of_mem _ h)
  have hown : s.vm.findClass RX6 = some m.cls := findClass_of_methodNamed B.named
  have hlocks := B.notSynchronized
  obtain ⟨R, hR⟩ : ∃ R : Room, R = ({ frames := 5, cells := 0, slots := 0, locals := 107 } : Room) := ⟨_, rfl⟩
  rw [show (headSpec (wz yX6_takes cX6_takes 2 (some .boolean)) { frames := 5, cells := 0, slots := 0, locals := 107 }).room = R from hR.symm]
  refine ti_mz hx hb hr hlocks (fun Q ret => ?_)
  have hl := lv_entry [.ref a0, .ref (adK si1)] (n := 2) (Nat.le_of_ble_eq_true rfl)
  rw [lg_entry_eq]
  generalize (lg_sl [.ref a0, .ref (adK si1)] ++ List.replicate (2 - (lg_sl [.ref a0, .ref (adK si1)]).length) Slot.unset).toArray = ls at hl ⊢
  have hl : lv_has ls 2 [(0, .ref a0), (1, .ref (adK si1))] := hl
  refine ti_gen (P := fun H => TI D vwCl (tysOf c0) (RTg ν) Y H) (Y := Y) (ws := [6]) hT (fun H locs hT hS => ?_)
  refine lv_aload_n hx hb dX6_takes_0 rfl (lv_at hl 0 rfl) ?_
  refine ti_geti hx hb hts inlX6 hown hK hT ha0 rfl rfl rfl 10 (by decide) (hts _ kw_198) (fun _ h9 => h9) rfl dX6_takes_1 (fun v1 hv1 hm1 => ?_)
  refine lv_if_ne (tgt := 15) hx hb dX6_takes_4 (by decide) (fun c4 => ?_) (fun c4 => ?_)
  · skip
    have kl0 : (0 : Int32).toInt = 0 := by decide
    have f4 := i_ne c4
    refine lv_iconst (v := 0) hx hb dX6_takes_15 (by decide) ?_
    exact ret _ _ _ _ _ dX6_takes_16 (iv_w (iv_c (x := (0 : Int32)) (k := 0) (by decide)) (by decide)) (⟨hT, iv_w (iv_c (x := (0 : Int32)) (k := 0) (by decide)) (by decide)⟩) hS
  · skip
    have kl0 : (0 : Int32).toInt = 0 := by decide
    have f4 := i_eq c4
    have hv1_4l : iv v1 0 0 := iv_eql hv1 (iv_c (x := (0 : Int32)) (k := 0) (by decide)) c4 (by decide)
    refine lv_aload_n hx hb dX6_takes_7 rfl (lv_at hl 0 rfl) ?_
    refine lv_aload_n hx hb dX6_takes_8 rfl (lv_at hl 1 rfl) ?_
    refine ti_calli (va_runV (As := [.ref (adK si1)]) (rest := []) ⟨hx, hb, hml, hown, hts⟩ (t_X6_isAt l hT ha0 hsi1) (cwV 1 hts (good_V kw_221 kw_222 kw_223 kw_15 kw_224) rfl rfl rfl (by decide +kernel) ⟨by rw [hR]; decide, by rw [hR]; decide⟩) (ts_preV hK hSO hS hT ha0 rfl rfl) rfl rfl hl.1 rfl (lv_room (Nat.le_of_ble_eq_true rfl)) dX6_takes_9 ⟨Nat.zero_le _, Nat.zero_le _⟩) hS (pW_sub rfl) (fun v9 H1 locs hB hS _ hk9 => ?_)
    obtain ⟨hH, hv9⟩ := hB
    rw [hH] at hS ⊢
    refine lv_if_ne (tgt := 17) hx hb dX6_takes_12 (by decide) (fun c12 => ?_) (fun c12 => ?_)
    · skip
      have f12 := i_ne c12
      have hv9_12l : iv v9 1 1 := iv_nel hv9 (iv_c (x := (0 : Int32)) (k := 0) (by decide)) c12 (by decide)
      refine lv_aload_n hx hb dX6_takes_17 rfl (lv_at hl 0 rfl) ?_
      refine ti_callv (va_runV (As := []) (rest := []) ⟨hx, hb, hml, hown, hts⟩ (t_X6_advance l hT ha0 hm1 (iv_w hv1_4l (by decide))) (cwV 0 hts (good_V kw_203 kw_204 kw_205 kw_15 kw_206) rfl rfl rfl (by decide +kernel) ⟨by rw [hR]; decide, by rw [hR]; decide⟩) (ti_preV hK hT ha0 rfl rfl) rfl rfl hl.1 rfl (lv_room (Nat.le_of_ble_eq_true rfl)) dX6_takes_18 ⟨Nat.zero_le _, Nat.zero_le _⟩) hS (pW_sub rfl) (fun H locs hB hS _ hk18 => ?_)
      obtain ⟨hT, ⟨w18_0, hw18_0, hwi18_0, hwp18_0⟩⟩ := hB
      refine lv_iconst (v := 1) hx hb dX6_takes_21 (by decide) ?_
      exact ret _ _ _ _ _ dX6_takes_22 (iv_w (iv_c (x := (1 : Int32)) (k := 1) (by decide)) (by decide)) (⟨hT, iv_w (iv_c (x := (1 : Int32)) (k := 1) (by decide)) (by decide)⟩) hS
    · skip
      have f12 := i_eq c12
      have hv9_12l : iv v9 0 0 := iv_eql hv9 (iv_c (x := (0 : Int32)) (k := 0) (by decide)) c12 (by decide)
      refine lv_iconst (v := 0) hx hb dX6_takes_15 (by decide) ?_
      exact ret _ _ _ _ _ dX6_takes_16 (iv_w (iv_c (x := (0 : Int32)) (k := 0) (by decide)) (by decide)) (⟨hT, iv_w (iv_c (x := (0 : Int32)) (k := 0) (by decide)) (by decide)⟩) hS
set_option maxHeartbeats 4000000 in
set_option maxRecDepth 100000 in
theorem t_X6_readGoes (l : Launch) {D : va_G} {c0 : Nat → ClassId} {Y : Nat → Option Nat} {ν : Nat → Nat} {adK adV : Nat → Nat} {H : Heap} (hT : TI D vwCl (tysOf c0) (RTg ν) Y H) {a0 : Nat} (ha0 : Y a0 = some 6) : Met l yX6_readGoes (wz yX6_readGoes cX6_readGoes 1 (some .int)) { frames := 6, cells := 0, slots := 0, locals := 128 } (TPs D (tysOf c0) Y adK adV H [.ref a0]) (TQi (fun x H' => TI D vwCl (tysOf c0) (RTg ν) Y H' ∧ iv x 0 2) Y [6]) 0 0 (pW Y [6]) := by
  refine Met.ofW (cc := cX6_readGoes) (maxL := 1) (ret := (some .int)) (by decide) rfl ?_
  intro p e s m args below meth c s₁ B hml hv
  obtain ⟨rfl, rfl, hK, hSO⟩ := hv
  have hx := B.exec
  have hb := B.bytes
  have hr := B.returns
  have hts : ∀ w ∈ wq, w.before _ s = true := fun w h => atoms_spec (ws := wz yX6_readGoes cX6_readGoes 1 (some .int)) B.pre w (List.mem_cons_of_mem _ h)
  have hown : s.vm.findClass RX6 = some m.cls := findClass_of_methodNamed B.named
  have hlocks := B.notSynchronized
  obtain ⟨R, hR⟩ : ∃ R : Room, R = ({ frames := 6, cells := 0, slots := 0, locals := 128 } : Room) := ⟨_, rfl⟩
  rw [show (headSpec (wz yX6_readGoes cX6_readGoes 1 (some .int)) { frames := 6, cells := 0, slots := 0, locals := 128 }).room = R from hR.symm]
  refine ti_mi hx hb hr hlocks (fun Q ret => ?_)
  have hl := lv_entry [.ref a0] (n := 1) (Nat.le_of_ble_eq_true rfl)
  rw [lg_entry_eq]
  generalize (lg_sl [.ref a0] ++ List.replicate (1 - (lg_sl [.ref a0]).length) Slot.unset).toArray = ls at hl ⊢
  have hl : lv_has ls 1 [(0, .ref a0)] := hl
  refine ti_gen (P := fun H => TI D vwCl (tysOf c0) (RTg ν) Y H) (Y := Y) (ws := [6]) hT (fun H locs hT hS => ?_)
  refine lv_aload_n hx hb dX6_readGoes_0 rfl (lv_at hl 0 rfl) ?_
  refine va_ldcS (q := adK 6) hx hb hown (hSO.2.2.2 (RX6, 159, "well", 6) (by decide +kernel)) dX6_readGoes_1 ?_
  refine ti_calli (va_runV (As := [.ref (adK 6)]) (rest := []) ⟨hx, hb, hml, hown, hts⟩ (t_X6_takes l hT ha0 (by decide)) (cwV 1 hts (good_V kw_299 kw_300 kw_301 kw_15 kw_302) rfl rfl rfl (by decide +kernel) ⟨by rw [hR]; decide, by rw [hR]; decide⟩) (ts_preV hK hSO hS hT ha0 rfl rfl) rfl rfl hl.1 rfl (lv_room (Nat.le_of_ble_eq_true rfl)) dX6_readGoes_3 ⟨Nat.zero_le _, Nat.zero_le _⟩) hS (pW_sub rfl) (fun v3 H locs hB hS _ hk3 => ?_)
  obtain ⟨hT, hv3⟩ := hB
  refine lv_if_eq (tgt := 11) hx hb dX6_readGoes_6 (by decide) (fun c6 => ?_) (fun c6 => ?_)
  · skip
    have kl0 : (0 : Int32).toInt = 0 := by decide
    have f6 := i_eq c6
    have hv3_6l : iv v3 0 0 := iv_eql hv3 (iv_c (x := (0 : Int32)) (k := 0) (by decide)) c6 (by decide)
    refine lv_aload_n hx hb dX6_readGoes_11 rfl (lv_at hl 0 rfl) ?_
    refine va_ldcS (q := adK 7) hx hb hown (hSO.2.2.2 (RX6, 161, "shared", 7) (by decide +kernel)) dX6_readGoes_12 ?_
    refine ti_calli (va_runV (As := [.ref (adK 7)]) (rest := []) ⟨hx, hb, hml, hown, hts⟩ (t_X6_takes l hT ha0 (by decide)) (cwV 1 hts (good_V kw_299 kw_300 kw_301 kw_15 kw_302) rfl rfl rfl (by decide +kernel) ⟨by rw [hR]; decide, by rw [hR]; decide⟩) (ts_preV hK hSO hS hT ha0 rfl rfl) rfl rfl hl.1 rfl (lv_room (Nat.le_of_ble_eq_true rfl)) dX6_readGoes_14 ⟨Nat.zero_le _, Nat.zero_le _⟩) hS (pW_sub rfl) (fun v14 H locs hB hS _ hk14 => ?_)
    obtain ⟨hT, hv14⟩ := hB
    refine lv_if_eq (tgt := 22) hx hb dX6_readGoes_17 (by decide) (fun c17 => ?_) (fun c17 => ?_)
    · skip
      have f17 := i_eq c17
      have hv14_17l : iv v14 0 0 := iv_eql hv14 (iv_c (x := (0 : Int32)) (k := 0) (by decide)) c17 (by decide)
      refine lv_aload_n hx hb dX6_readGoes_22 rfl (lv_at hl 0 rfl) ?_
      refine va_ldcS (q := adK 8) hx hb hown (hSO.2.2.2 (RX6, 163, "burnt", 8) (by decide +kernel)) dX6_readGoes_23 ?_
      obtain ⟨g25_10, hg25_10, hmg25_10⟩ := ti_fi hT ha0 rfl rfl rfl 10 rfl
      refine ti_callv (va_runV (As := [.ref (adK 8)]) (rest := []) ⟨hx, hb, hml, hown, hts⟩ (t_X6_take l hT ha0 (by decide) hmg25_10 (iv_w hg25_10 (by decide))) (cwV 1 hts (good_V kw_217 kw_218 kw_219 kw_15 kw_220) rfl rfl rfl (by decide +kernel) ⟨by rw [hR]; decide, by rw [hR]; decide⟩) (ts_preV hK hSO hS hT ha0 rfl rfl) rfl rfl hl.1 rfl (lv_room (Nat.le_of_ble_eq_true rfl)) dX6_readGoes_25 ⟨Nat.zero_le _, Nat.zero_le _⟩) hS (pW_sub rfl) (fun H locs hB hS _ hk25 => ?_)
      obtain ⟨hT, ⟨w25_0, hw25_0, hwi25_0, hwp25_0⟩⟩ := hB
      refine lv_iconst (v := 2) hx hb dX6_readGoes_28 (by decide) ?_
      exact ret _ _ _ _ _ dX6_readGoes_29 (⟨hT, iv_w (iv_c (x := (2 : Int32)) (k := 2) (by decide)) (by decide)⟩) hS
    · skip
      have f17 := i_ne c17
      have hv14_17l : iv v14 1 1 := iv_nel hv14 (iv_c (x := (0 : Int32)) (k := 0) (by decide)) c17 (by decide)
      refine lv_iconst (v := 1) hx hb dX6_readGoes_20 (by decide) ?_
      exact ret _ _ _ _ _ dX6_readGoes_21 (⟨hT, iv_w (iv_c (x := (1 : Int32)) (k := 1) (by decide)) (by decide)⟩) hS
  · skip
    have kl0 : (0 : Int32).toInt = 0 := by decide
    have f6 := i_ne c6
    have hv3_6l : iv v3 1 1 := iv_nel hv3 (iv_c (x := (0 : Int32)) (k := 0) (by decide)) c6 (by decide)
    refine lv_iconst (v := 0) hx hb dX6_readGoes_9 (by decide) ?_
    exact ret _ _ _ _ _ dX6_readGoes_10 (⟨hT, iv_w (iv_c (x := (0 : Int32)) (k := 0) (by decide)) (by decide)⟩) hS
set_option maxHeartbeats 4000000 in
set_option maxRecDepth 100000 in
theorem t_X6_readLaw (l : Launch) {D : va_G} {c0 : Nat → ClassId} {Y : Nat → Option Nat} {ν : Nat → Nat} {adK adV : Nat → Nat} {H : Heap} (hT : TI D vwCl (tysOf c0) (RTg ν) Y H) {a0 : Nat} (ha0 : Y a0 = some 6) : Met l yX6_readLaw (wz yX6_readLaw cX6_readLaw 1 none) { frames := 7, cells := 0, slots := 0, locals := 151 } (TPs D (tysOf c0) Y adK adV H [.ref a0]) (TQv (fun H' => TI D vwCl (tysOf c0) (RTg ν) Y H') Y [0, 6]) 0 0 (pW Y [0, 6]) := by
  refine Met.ofW (cc := cX6_readLaw) (maxL := 1) (ret := none) (by decide) rfl ?_
  intro p e s m args below meth c s₁ B hml hv
  obtain ⟨rfl, rfl, hK, hSO⟩ := hv
  have hx := B.exec
  have hb := B.bytes
  have hr := B.returns
  have hts : ∀ w ∈ wq, w.before _ s = true := fun w h => atoms_spec (ws := wz yX6_readLaw cX6_readLaw 1 none) B.pre w (List.mem_cons_of_mem _ h)
  have hown : s.vm.findClass RX6 = some m.cls := findClass_of_methodNamed B.named
  have hlocks := B.notSynchronized
  obtain ⟨R, hR⟩ : ∃ R : Room, R = ({ frames := 7, cells := 0, slots := 0, locals := 151 } : Room) := ⟨_, rfl⟩
  rw [show (headSpec (wz yX6_readLaw cX6_readLaw 1 none) { frames := 7, cells := 0, slots := 0, locals := 151 }).room = R from hR.symm]
  refine ti_mv hx hb hr hlocks (fun Q ret => ?_)
  have hl := lv_entry [.ref a0] (n := 1) (Nat.le_of_ble_eq_true rfl)
  rw [lg_entry_eq]
  generalize (lg_sl [.ref a0] ++ List.replicate (1 - (lg_sl [.ref a0]).length) Slot.unset).toArray = ls at hl ⊢
  have hl : lv_has ls 1 [(0, .ref a0)] := hl
  refine ti_gen (P := fun H => TI D vwCl (tysOf c0) (RTg ν) Y H) (Y := Y) (ws := [0, 6]) hT (fun H locs hT hS => ?_)
  refine lv_aload_n hx hb dX6_readLaw_0 rfl (lv_at hl 0 rfl) ?_
  refine ti_geti hx hb hts inlX6 hown hK hT ha0 rfl rfl rfl 7 (by decide) (hts _ kw_195) (fun _ h9 => h9) rfl dX6_readLaw_1 (fun v1 hv1 hm1 => ?_)
  have J12 : ∀  (H : Heap) (locs : List Loc) (ls : Array Slot), TI D vwCl (tysOf c0) (RTg ν) Y H → va_S (pW Y [0, 6]) s.heap H locs → lv_has ls 1 [(0, .ref a0)] → W p l e R s m ([.ref a0] : List Value).toArray below meth c H locs 0 0 Q (F0 m 12 ls []) := by
    intro  H locs ls  hT hS hl
    refine lv_aload_n hx hb dX6_readLaw_12 rfl (lv_at hl 0 rfl) ?_
    refine lv_iconst (v := 1) hx hb dX6_readLaw_13 (by decide) ?_
    refine ti_put (ty := .boolean) hx hb hts inlX6 tyX6 tyX6_ok nmX6 hown hK hT hS ha0 rfl rfl rfl rfl 7 (by decide) (hts _ kw_195) (fun _ h9 => h9) rfl rfl (by decide +kernel) (ti_nz (iv_w (iv_c (x := (1 : Int32)) (k := 1) (by decide)) (by decide))).1 (ti_nz (iv_w (iv_c (x := (1 : Int32)) (k := 1) (by decide)) (by decide))).2 ⟨(1 : Int32), rfl, iv_w (iv_c (x := (1 : Int32)) (k := 1) (by decide)) (by decide)⟩ (fun _ _ => trivial) dX6_readLaw_14 (fun H locs hT hS oq14 he14 hk14 => ?_)
    refine lv_aload_n hx hb dX6_readLaw_17 rfl (lv_at hl 0 rfl) ?_
    refine va_ldcS (q := adK 2) hx hb hown (hSO.2.2.2 (RX6, 71, "law", 2) (by decide +kernel)) dX6_readLaw_18 ?_
    obtain ⟨g20_10, hg20_10, hmg20_10⟩ := ti_fi hT ha0 rfl rfl rfl 10 rfl
    refine ti_callv (va_runV (As := [.ref (adK 2)]) (rest := []) ⟨hx, hb, hml, hown, hts⟩ (t_X6_take l hT ha0 (by decide) hmg20_10 (iv_w hg20_10 (by decide))) (cwV 1 hts (good_V kw_217 kw_218 kw_219 kw_15 kw_220) rfl rfl rfl (by decide +kernel) ⟨by rw [hR]; decide, by rw [hR]; decide⟩) (ts_preV hK hSO hS hT ha0 rfl rfl) rfl rfl hl.1 rfl (lv_room (Nat.le_of_ble_eq_true rfl)) dX6_readLaw_20 ⟨Nat.zero_le _, Nat.zero_le _⟩) hS (pW_sub rfl) (fun H locs hB hS _ hk20 => ?_)
    obtain ⟨hT, ⟨w20_0, hw20_0, hwi20_0, hwp20_0⟩⟩ := hB
    refine lv_aload_n hx hb dX6_readLaw_23 rfl (lv_at hl 0 rfl) ?_
    refine ti_getr hx hb hts inlX6 hown hK hT ha0 rfl rfl rfl 2 (by decide) (hts _ kw_50) (fun _ h9 => h9) rfl dX6_readLaw_24 (fun v24 hv24 hm24 => ?_)
    refine ti_getr hx hb hts inlX7 hown hK hT hv24 rfl rfl rfl 6 (by decide) (hts _ kw_290) (fun _ h9 => h9) rfl dX6_readLaw_27 (fun v27 hv27 hm27 => ?_)
    refine lv_aload_n hx hb dX6_readLaw_30 rfl (lv_at hl 0 rfl) ?_
    refine va_ldcS (q := adK 3) hx hb hown (hSO.2.2.2 (RX6, 135, "over", 3) (by decide +kernel)) dX6_readLaw_31 ?_
    refine lv_iconst (v := 0) hx hb dX6_readLaw_33 (by decide) ?_
    refine lv_bipush (v := 30) hx hb dX6_readLaw_34 (by decide) ?_
    refine ti_calli (va_runV (As := [.ref (adK 3), .int (0 : Int32), .int (30 : Int32)]) (rest := [.ref v27]) ⟨hx, hb, hml, hown, hts⟩ (t_X6_takeNamed l hT ha0 (by decide) (iv_w (iv_c (x := (0 : Int32)) (k := 0) (by decide)) (by decide)) (iv_w (iv_c (x := (30 : Int32)) (k := 30) (by decide)) (by decide)) hw20_0 (iv_w hwi20_0 (by decide))) (cwV 3 hts (good_V kw_278 kw_279 kw_280 kw_15 kw_281) rfl rfl rfl (by decide +kernel) ⟨by rw [hR]; decide, by rw [hR]; decide⟩) (ts_preV hK hSO hS hT ha0 rfl rfl) rfl rfl hl.1 rfl (lv_room (Nat.le_of_ble_eq_true rfl)) dX6_readLaw_36 ⟨Nat.zero_le _, Nat.zero_le _⟩) hS (pW_sub rfl) (fun v36 H locs hB hS _ hk36 => ?_)
    obtain ⟨hT, hv36, ⟨w36_0, hw36_0, hwi36_0, hwp36_0⟩⟩ := hB
    have kl0 : (0 : Int32).toInt = 0 := by decide
    have kl30 : (30 : Int32).toInt = 30 := by decide
    refine ti_put (ty := .int) hx hb hts inlX0 tyX0 tyX0_ok nmX0 hown hK hT hS hv27 rfl rfl rfl rfl 0 (by decide) (hts _ kw_291) (fun _ h9 => h9) rfl rfl (by decide +kernel) rfl rfl ⟨v36, rfl, iv_w hv36 (by decide)⟩ (fun _ _ => trivial) dX6_readLaw_39 (fun H locs hT hS oq39 he39 hk39 => ?_)
    refine lv_aload_n hx hb dX6_readLaw_42 rfl (lv_at hl 0 rfl) ?_
    refine ti_getr hx hb hts inlX6 hown hK hT ha0 rfl rfl rfl 2 (by decide) (hts _ kw_50) (fun _ h9 => h9) rfl dX6_readLaw_43 (fun v43 hv43 hm43 => ?_)
    refine ti_getr hx hb hts inlX7 hown hK hT hv43 rfl rfl rfl 6 (by decide) (hts _ kw_290) (fun _ h9 => h9) rfl dX6_readLaw_46 (fun v46 hv46 hm46 => ?_)
    refine lv_aload_n hx hb dX6_readLaw_49 rfl (lv_at hl 0 rfl) ?_
    refine va_ldcS (q := adK 4) hx hb hown (hSO.2.2.2 (RX6, 141, "ties", 4) (by decide +kernel)) dX6_readLaw_50 ?_
    refine lv_iconst (v := 2) hx hb dX6_readLaw_52 (by decide) ?_
    refine lv_iconst (v := 4) hx hb dX6_readLaw_53 (by decide) ?_
    refine ti_calli (va_runV (As := [.ref (adK 4), .int (2 : Int32), .int (4 : Int32)]) (rest := [.ref v46]) ⟨hx, hb, hml, hown, hts⟩ (t_X6_takeNamed l hT ha0 (by decide) (iv_w (iv_c (x := (2 : Int32)) (k := 2) (by decide)) (by decide)) (iv_w (iv_c (x := (4 : Int32)) (k := 4) (by decide)) (by decide)) (hw36_0.kept (oq39 _ (ne_r ha0 hv27 rfl))) (iv_w hwi36_0 (by decide))) (cwV 3 hts (good_V kw_278 kw_279 kw_280 kw_15 kw_281) rfl rfl rfl (by decide +kernel) ⟨by rw [hR]; decide, by rw [hR]; decide⟩) (ts_preV hK hSO hS hT ha0 rfl rfl) rfl rfl hl.1 rfl (lv_room (Nat.le_of_ble_eq_true rfl)) dX6_readLaw_54 ⟨Nat.zero_le _, Nat.zero_le _⟩) hS (pW_sub rfl) (fun v54 H locs hB hS _ hk54 => ?_)
    obtain ⟨hT, hv54, ⟨w54_0, hw54_0, hwi54_0, hwp54_0⟩⟩ := hB
    have kl2 : (2 : Int32).toInt = 2 := by decide
    have kl4 : (4 : Int32).toInt = 4 := by decide
    refine ti_put (ty := .int) hx hb hts inlX0 tyX0 tyX0_ok nmX0 hown hK hT hS hv46 rfl rfl rfl rfl 1 (by decide) (hts _ kw_292) (fun _ h9 => h9) rfl rfl (by decide +kernel) rfl rfl ⟨v54, rfl, iv_w hv54 (by decide)⟩ (fun _ _ => trivial) dX6_readLaw_57 (fun H locs hT hS oq57 he57 hk57 => ?_)
    refine lv_aload_n hx hb dX6_readLaw_60 rfl (lv_at hl 0 rfl) ?_
    refine va_ldcS (q := adK 5) hx hb hown (hSO.2.2.2 (RX6, 145, "goes", 5) (by decide +kernel)) dX6_readLaw_61 ?_
    refine ti_callv (va_runV (As := [.ref (adK 5)]) (rest := []) ⟨hx, hb, hml, hown, hts⟩ (t_X6_take l hT ha0 (by decide) (hw54_0.kept (oq57 _ (ne_r ha0 hv46 rfl))) (iv_w hwi54_0 (by decide))) (cwV 1 hts (good_V kw_217 kw_218 kw_219 kw_15 kw_220) rfl rfl rfl (by decide +kernel) ⟨by rw [hR]; decide, by rw [hR]; decide⟩) (ts_preV hK hSO hS hT ha0 rfl rfl) rfl rfl hl.1 rfl (lv_room (Nat.le_of_ble_eq_true rfl)) dX6_readLaw_63 ⟨Nat.zero_le _, Nat.zero_le _⟩) hS (pW_sub rfl) (fun H locs hB hS _ hk63 => ?_)
    obtain ⟨hT, ⟨w63_0, hw63_0, hwi63_0, hwp63_0⟩⟩ := hB
    refine lv_aload_n hx hb dX6_readLaw_66 rfl (lv_at hl 0 rfl) ?_
    refine ti_getr hx hb hts inlX6 hown hK hT ha0 rfl rfl rfl 2 (by decide) (hts _ kw_50) (fun _ h9 => h9) rfl dX6_readLaw_67 (fun v67 hv67 hm67 => ?_)
    refine ti_getr hx hb hts inlX7 hown hK hT hv67 rfl rfl rfl 6 (by decide) (hts _ kw_290) (fun _ h9 => h9) rfl dX6_readLaw_70 (fun v70 hv70 hm70 => ?_)
    refine lv_aload_n hx hb dX6_readLaw_73 rfl (lv_at hl 0 rfl) ?_
    refine ti_calli (va_runV (As := []) (rest := [.ref v70]) ⟨hx, hb, hml, hown, hts⟩ (t_X6_readGoes l hT ha0) (cwV 0 hts (good_V kw_295 kw_296 kw_297 kw_15 kw_298) rfl rfl rfl (by decide +kernel) ⟨by rw [hR]; decide, by rw [hR]; decide⟩) (ts_preV hK hSO hS hT ha0 rfl rfl) rfl rfl hl.1 rfl (lv_room (Nat.le_of_ble_eq_true rfl)) dX6_readLaw_74 ⟨Nat.zero_le _, Nat.zero_le _⟩) hS (pW_sub rfl) (fun v74 H locs hB hS _ hk74 => ?_)
    obtain ⟨hT, hv74⟩ := hB
    refine ti_put (ty := .int) hx hb hts inlX0 tyX0 tyX0_ok nmX0 hown hK hT hS hv70 rfl rfl rfl rfl 2 (by decide) (hts _ kw_293) (fun _ h9 => h9) rfl rfl (by decide +kernel) rfl rfl ⟨v74, rfl, iv_w hv74 (by decide)⟩ (fun _ _ => trivial) dX6_readLaw_77 (fun H locs hT hS oq77 he77 hk77 => ?_)
    refine lv_aload_n hx hb dX6_readLaw_80 rfl (lv_at hl 0 rfl) ?_
    refine ti_getr hx hb hts inlX6 hown hK hT ha0 rfl rfl rfl 2 (by decide) (hts _ kw_50) (fun _ h9 => h9) rfl dX6_readLaw_81 (fun v81 hv81 hm81 => ?_)
    refine ti_getr hx hb hts inlX7 hown hK hT hv81 rfl rfl rfl 6 (by decide) (hts _ kw_290) (fun _ h9 => h9) rfl dX6_readLaw_84 (fun v84 hv84 hm84 => ?_)
    refine lv_aload_n hx hb dX6_readLaw_87 rfl (lv_at hl 0 rfl) ?_
    refine va_ldcS (q := adK 9) hx hb hown (hSO.2.2.2 (RX6, 152, "least", 9) (by decide +kernel)) dX6_readLaw_88 ?_
    refine ti_calli (va_runV (As := [.ref (adK 9)]) (rest := [.ref v84]) ⟨hx, hb, hml, hown, hts⟩ (t_X6_takes l hT ha0 (by decide)) (cwV 1 hts (good_V kw_299 kw_300 kw_301 kw_15 kw_302) rfl rfl rfl (by decide +kernel) ⟨by rw [hR]; decide, by rw [hR]; decide⟩) (ts_preV hK hSO hS hT ha0 rfl rfl) rfl rfl hl.1 rfl (lv_room (Nat.le_of_ble_eq_true rfl)) dX6_readLaw_90 ⟨Nat.zero_le _, Nat.zero_le _⟩) hS (pW_sub rfl) (fun v90 H locs hB hS _ hk90 => ?_)
    obtain ⟨hT, hv90⟩ := hB
    refine ti_put (ty := .boolean) hx hb hts inlX0 tyX0 tyX0_ok nmX0 hown hK hT hS hv84 rfl rfl rfl rfl 3 (by decide) (hts _ kw_294) (fun _ h9 => h9) rfl rfl (by decide +kernel) (ti_nz (iv_w hv90 (by decide))).1 (ti_nz (iv_w hv90 (by decide))).2 ⟨v90, rfl, iv_w hv90 (by decide)⟩ (fun _ _ => trivial) dX6_readLaw_93 (fun H locs hT hS oq93 he93 hk93 => ?_)
    exact ret _ _ _ _ dX6_readLaw_96 (hT) hS
  refine lv_if_eq (tgt := 12) hx hb dX6_readLaw_4 (by decide) (fun c4 => ?_) (fun c4 => ?_)
  · skip
    have kl0 : (0 : Int32).toInt = 0 := by decide
    have f4 := i_eq c4
    have hv1_4l : iv v1 0 0 := iv_eql hv1 (iv_c (x := (0 : Int32)) (k := 0) (by decide)) c4 (by decide)
    exact J12  _ _ _   hT hS (lv_sub hl [0] rfl)
  · skip
    have kl0 : (0 : Int32).toInt = 0 := by decide
    have f4 := i_ne c4
    have hv1_4l : iv v1 1 1 := iv_nel hv1 (iv_c (x := (0 : Int32)) (k := 0) (by decide)) c4 (by decide)
    refine lv_aload_n hx hb dX6_readLaw_7 rfl (lv_at hl 0 rfl) ?_
    refine lv_iconst (v := 2) hx hb dX6_readLaw_8 (by decide) ?_
    refine ti_callv (va_runV (As := [.int (2 : Int32)]) (rest := []) ⟨hx, hb, hml, hown, hts⟩ (t_X6_fail l hT ha0 (iv_w (iv_c (x := (2 : Int32)) (k := 2) (by decide)) (by decide))) (cwV 1 hts (good_V kw_274 kw_275 kw_276 kw_15 kw_277) rfl rfl rfl (by decide +kernel) ⟨by rw [hR]; decide, by rw [hR]; decide⟩) (ti_preV hK hT ha0 rfl rfl) rfl rfl hl.1 rfl (lv_room (Nat.le_of_ble_eq_true rfl)) dX6_readLaw_9 ⟨Nat.zero_le _, Nat.zero_le _⟩) hS (pW_sub rfl) (fun H locs hB hS _ hk9 => ?_)
    obtain ⟨hT, ⟨w9_0, hw9_0, hwi9_0, hwp9_0⟩⟩ := hB
    exact J12  _ _ _   hT hS (lv_sub hl [0] rfl)
set_option maxHeartbeats 4000000 in
set_option maxRecDepth 100000 in
theorem t_X6_readWay (l : Launch) {D : va_G} {c0 : Nat → ClassId} {Y : Nat → Option Nat} {ν : Nat → Nat} {adK adV : Nat → Nat} {H : Heap} (hT : TI D vwCl (tysOf c0) (RTg ν) Y H) {a0 : Nat} (ha0 : Y a0 = some 6) {a1 : Nat} (ha1 : Y a1 = some 3) : Met l yX6_readWay (wz yX6_readWay cX6_readWay 2 none) { frames := 7, cells := 0, slots := 0, locals := 151 } (TPs D (tysOf c0) Y adK adV H [.ref a0, .ref a1]) (TQv (fun H' => TI D vwCl (tysOf c0) (RTg ν) Y H') Y [3, 6]) 0 0 (pW Y [3, 6]) := by
  refine Met.ofW (cc := cX6_readWay) (maxL := 2) (ret := none) (by decide) rfl ?_
  intro p e s m args below meth c s₁ B hml hv
  obtain ⟨rfl, rfl, hK, hSO⟩ := hv
  have hx := B.exec
  have hb := B.bytes
  have hr := B.returns
  have hts : ∀ w ∈ wq, w.before _ s = true := fun w h => atoms_spec (ws := wz yX6_readWay cX6_readWay 2 none) B.pre w (List.mem_cons_of_mem _ h)
  have hown : s.vm.findClass RX6 = some m.cls := findClass_of_methodNamed B.named
  have hlocks := B.notSynchronized
  obtain ⟨R, hR⟩ : ∃ R : Room, R = ({ frames := 7, cells := 0, slots := 0, locals := 151 } : Room) := ⟨_, rfl⟩
  rw [show (headSpec (wz yX6_readWay cX6_readWay 2 none) { frames := 7, cells := 0, slots := 0, locals := 151 }).room = R from hR.symm]
  refine ti_mv hx hb hr hlocks (fun Q ret => ?_)
  have hl := lv_entry [.ref a0, .ref a1] (n := 2) (Nat.le_of_ble_eq_true rfl)
  rw [lg_entry_eq]
  generalize (lg_sl [.ref a0, .ref a1] ++ List.replicate (2 - (lg_sl [.ref a0, .ref a1]).length) Slot.unset).toArray = ls at hl ⊢
  have hl : lv_has ls 2 [(0, .ref a0), (1, .ref a1)] := hl
  refine ti_gen (P := fun H => TI D vwCl (tysOf c0) (RTg ν) Y H) (Y := Y) (ws := [3, 6]) hT (fun H locs hT hS => ?_)
  refine lv_aload_n hx hb dX6_readWay_0 rfl (lv_at hl 0 rfl) ?_
  refine va_ldcS (q := adK 17) hx hb hown (hSO.2.2.2 (RX6, 207, "eat", 17) (by decide +kernel)) dX6_readWay_1 ?_
  refine ti_calli (va_runV (As := [.ref (adK 17)]) (rest := []) ⟨hx, hb, hml, hown, hts⟩ (t_X6_takes l hT ha0 (by decide)) (cwV 1 hts (good_V kw_299 kw_300 kw_301 kw_15 kw_302) rfl rfl rfl (by decide +kernel) ⟨by rw [hR]; decide, by rw [hR]; decide⟩) (ts_preV hK hSO hS hT ha0 rfl rfl) rfl rfl hl.1 rfl (lv_room (Nat.le_of_ble_eq_true rfl)) dX6_readWay_3 ⟨Nat.zero_le _, Nat.zero_le _⟩) hS (pW_sub rfl) (fun v3 H locs hB hS _ hk3 => ?_)
  obtain ⟨hT, hv3⟩ := hB
  refine lv_if_eq (tgt := 17) hx hb dX6_readWay_6 (by decide) (fun c6 => ?_) (fun c6 => ?_)
  · skip
    have kl0 : (0 : Int32).toInt = 0 := by decide
    have f6 := i_eq c6
    have hv3_6l : iv v3 0 0 := iv_eql hv3 (iv_c (x := (0 : Int32)) (k := 0) (by decide)) c6 (by decide)
    refine lv_aload_n hx hb dX6_readWay_17 rfl (lv_at hl 0 rfl) ?_
    refine va_ldcS (q := adK 18) hx hb hown (hSO.2.2.2 (RX6, 212, "match", 18) (by decide +kernel)) dX6_readWay_18 ?_
    refine ti_calli (va_runV (As := [.ref (adK 18)]) (rest := []) ⟨hx, hb, hml, hown, hts⟩ (t_X6_takes l hT ha0 (by decide)) (cwV 1 hts (good_V kw_299 kw_300 kw_301 kw_15 kw_302) rfl rfl rfl (by decide +kernel) ⟨by rw [hR]; decide, by rw [hR]; decide⟩) (ts_preV hK hSO hS hT ha0 rfl rfl) rfl rfl hl.1 rfl (lv_room (Nat.le_of_ble_eq_true rfl)) dX6_readWay_20 ⟨Nat.zero_le _, Nat.zero_le _⟩) hS (pW_sub rfl) (fun v20 H locs hB hS _ hk20 => ?_)
    obtain ⟨hT, hv20⟩ := hB
    refine lv_if_eq (tgt := 34) hx hb dX6_readWay_23 (by decide) (fun c23 => ?_) (fun c23 => ?_)
    · skip
      have f23 := i_eq c23
      have hv20_23l : iv v20 0 0 := iv_eql hv20 (iv_c (x := (0 : Int32)) (k := 0) (by decide)) c23 (by decide)
      refine lv_aload_n hx hb dX6_readWay_34 rfl (lv_at hl 0 rfl) ?_
      refine va_ldcS (q := adK 19) hx hb hown (hSO.2.2.2 (RX6, 214, "work", 19) (by decide +kernel)) dX6_readWay_35 ?_
      refine ti_calli (va_runV (As := [.ref (adK 19)]) (rest := []) ⟨hx, hb, hml, hown, hts⟩ (t_X6_takes l hT ha0 (by decide)) (cwV 1 hts (good_V kw_299 kw_300 kw_301 kw_15 kw_302) rfl rfl rfl (by decide +kernel) ⟨by rw [hR]; decide, by rw [hR]; decide⟩) (ts_preV hK hSO hS hT ha0 rfl rfl) rfl rfl hl.1 rfl (lv_room (Nat.le_of_ble_eq_true rfl)) dX6_readWay_37 ⟨Nat.zero_le _, Nat.zero_le _⟩) hS (pW_sub rfl) (fun v37 H locs hB hS _ hk37 => ?_)
      obtain ⟨hT, hv37⟩ := hB
      refine lv_if_eq (tgt := 51) hx hb dX6_readWay_40 (by decide) (fun c40 => ?_) (fun c40 => ?_)
      · skip
        have f40 := i_eq c40
        have hv37_40l : iv v37 0 0 := iv_eql hv37 (iv_c (x := (0 : Int32)) (k := 0) (by decide)) c40 (by decide)
        refine lv_aload_n hx hb dX6_readWay_51 rfl (lv_at hl 0 rfl) ?_
        refine va_ldcS (q := adK 20) hx hb hown (hSO.2.2.2 (RX6, 216, "best", 20) (by decide +kernel)) dX6_readWay_52 ?_
        refine ti_calli (va_runV (As := [.ref (adK 20)]) (rest := []) ⟨hx, hb, hml, hown, hts⟩ (t_X6_takes l hT ha0 (by decide)) (cwV 1 hts (good_V kw_299 kw_300 kw_301 kw_15 kw_302) rfl rfl rfl (by decide +kernel) ⟨by rw [hR]; decide, by rw [hR]; decide⟩) (ts_preV hK hSO hS hT ha0 rfl rfl) rfl rfl hl.1 rfl (lv_room (Nat.le_of_ble_eq_true rfl)) dX6_readWay_54 ⟨Nat.zero_le _, Nat.zero_le _⟩) hS (pW_sub rfl) (fun v54 H locs hB hS _ hk54 => ?_)
        obtain ⟨hT, hv54⟩ := hB
        refine lv_if_eq (tgt := 68) hx hb dX6_readWay_57 (by decide) (fun c57 => ?_) (fun c57 => ?_)
        · skip
          have f57 := i_eq c57
          have hv54_57l : iv v54 0 0 := iv_eql hv54 (iv_c (x := (0 : Int32)) (k := 0) (by decide)) c57 (by decide)
          refine lv_aload_n hx hb dX6_readWay_68 rfl (lv_at hl 0 rfl) ?_
          refine va_ldcS (q := adK 21) hx hb hown (hSO.2.2.2 (RX6, 218, "hide", 21) (by decide +kernel)) dX6_readWay_69 ?_
          refine ti_calli (va_runV (As := [.ref (adK 21)]) (rest := []) ⟨hx, hb, hml, hown, hts⟩ (t_X6_isAt l hT ha0 (by decide)) (cwV 1 hts (good_V kw_221 kw_222 kw_223 kw_15 kw_224) rfl rfl rfl (by decide +kernel) ⟨by rw [hR]; decide, by rw [hR]; decide⟩) (ts_preV hK hSO hS hT ha0 rfl rfl) rfl rfl hl.1 rfl (lv_room (Nat.le_of_ble_eq_true rfl)) dX6_readWay_71 ⟨Nat.zero_le _, Nat.zero_le _⟩) hS (pW_sub rfl) (fun v71 H1 locs hB hS _ hk71 => ?_)
          obtain ⟨hH, hv71⟩ := hB
          rw [hH] at hS ⊢
          refine lv_if_eq (tgt := 98) hx hb dX6_readWay_74 (by decide) (fun c74 => ?_) (fun c74 => ?_)
          · skip
            have f74 := i_eq c74
            have hv71_74l : iv v71 0 0 := iv_eql hv71 (iv_c (x := (0 : Int32)) (k := 0) (by decide)) c74 (by decide)
            refine lv_aload_n hx hb dX6_readWay_98 rfl (lv_at hl 1 rfl) ?_
            refine lv_iconst (v := 2) hx hb dX6_readWay_99 (by decide) ?_
            refine ti_put (ty := .int) hx hb hts inlX3 tyX3 tyX3_ok nmX3 hown hK hT hS ha1 rfl rfl rfl rfl 2 (by decide) (hts _ kw_326) (fun _ h9 => h9) rfl rfl (by decide +kernel) rfl rfl ⟨(2 : Int32), rfl, iv_w (iv_c (x := (2 : Int32)) (k := 2) (by decide)) (by decide)⟩ (fun _ _ => trivial) dX6_readWay_100 (fun H locs hT hS oq100 he100 hk100 => ?_)
            refine lv_aload_n hx hb dX6_readWay_103 rfl (lv_at hl 1 rfl) ?_
            refine lv_aload_n hx hb dX6_readWay_104 rfl (lv_at hl 0 rfl) ?_
            refine va_ldcS (q := adK 22) hx hb hown (hSO.2.2.2 (RX6, 223, "league", 22) (by decide +kernel)) dX6_readWay_105 ?_
            refine lv_iconst (v := 0) hx hb dX6_readWay_107 (by decide) ?_
            refine lv_bipush (v := 7) hx hb dX6_readWay_108 (by decide) ?_
            obtain ⟨g110_10, hg110_10, hmg110_10⟩ := ti_fi hT ha0 rfl rfl rfl 10 rfl
            refine ti_calli (va_runV (As := [.ref (adK 22), .int (0 : Int32), .int (7 : Int32)]) (rest := [.ref a1]) ⟨hx, hb, hml, hown, hts⟩ (t_X6_takeNamed l hT ha0 (by decide) (iv_w (iv_c (x := (0 : Int32)) (k := 0) (by decide)) (by decide)) (iv_w (iv_c (x := (7 : Int32)) (k := 7) (by decide)) (by decide)) hmg110_10 (iv_w hg110_10 (by decide))) (cwV 3 hts (good_V kw_278 kw_279 kw_280 kw_15 kw_281) rfl rfl rfl (by decide +kernel) ⟨by rw [hR]; decide, by rw [hR]; decide⟩) (ts_preV hK hSO hS hT ha0 rfl rfl) rfl rfl hl.1 rfl (lv_room (Nat.le_of_ble_eq_true rfl)) dX6_readWay_110 ⟨Nat.zero_le _, Nat.zero_le _⟩) hS (pW_sub rfl) (fun v110 H locs hB hS _ hk110 => ?_)
            obtain ⟨hT, hv110, ⟨w110_0, hw110_0, hwi110_0, hwp110_0⟩⟩ := hB
            have kl7 : (7 : Int32).toInt = 7 := by decide
            refine ti_put (ty := .int) hx hb hts inlX3 tyX3 tyX3_ok nmX3 hown hK hT hS ha1 rfl rfl rfl rfl 3 (by decide) (hts _ kw_327) (fun _ h9 => h9) rfl rfl (by decide +kernel) rfl rfl ⟨v110, rfl, iv_w hv110 (by decide)⟩ (fun _ _ => trivial) dX6_readWay_113 (fun H locs hT hS oq113 he113 hk113 => ?_)
            exact ret _ _ _ _ dX6_readWay_116 (hT) hS
          · skip
            have f74 := i_ne c74
            have hv71_74l : iv v71 1 1 := iv_nel hv71 (iv_c (x := (0 : Int32)) (k := 0) (by decide)) c74 (by decide)
            refine lv_aload_n hx hb dX6_readWay_77 rfl (lv_at hl 1 rfl) ?_
            refine lv_iconst (v := 3) hx hb dX6_readWay_78 (by decide) ?_
            refine ti_put (ty := .int) hx hb hts inlX3 tyX3 tyX3_ok nmX3 hown hK hT hS ha1 rfl rfl rfl rfl 2 (by decide) (hts _ kw_326) (fun _ h9 => h9) rfl rfl (by decide +kernel) rfl rfl ⟨(3 : Int32), rfl, iv_w (iv_c (x := (3 : Int32)) (k := 3) (by decide)) (by decide)⟩ (fun _ _ => trivial) dX6_readWay_79 (fun H locs hT hS oq79 he79 hk79 => ?_)
            refine lv_aload_n hx hb dX6_readWay_82 rfl (lv_at hl 1 rfl) ?_
            refine lv_aload_n hx hb dX6_readWay_83 rfl (lv_at hl 0 rfl) ?_
            refine va_ldcS (q := adK 21) hx hb hown (hSO.2.2.2 (RX6, 218, "hide", 21) (by decide +kernel)) dX6_readWay_84 ?_
            refine lv_iconst (v := 0) hx hb dX6_readWay_86 (by decide) ?_
            refine lv_bipush (v := 30) hx hb dX6_readWay_87 (by decide) ?_
            obtain ⟨g89_10, hg89_10, hmg89_10⟩ := ti_fi hT ha0 rfl rfl rfl 10 rfl
            refine ti_calli (va_runV (As := [.ref (adK 21), .int (0 : Int32), .int (30 : Int32)]) (rest := [.ref a1]) ⟨hx, hb, hml, hown, hts⟩ (t_X6_takeNamed l hT ha0 (by decide) (iv_w (iv_c (x := (0 : Int32)) (k := 0) (by decide)) (by decide)) (iv_w (iv_c (x := (30 : Int32)) (k := 30) (by decide)) (by decide)) hmg89_10 (iv_w hg89_10 (by decide))) (cwV 3 hts (good_V kw_278 kw_279 kw_280 kw_15 kw_281) rfl rfl rfl (by decide +kernel) ⟨by rw [hR]; decide, by rw [hR]; decide⟩) (ts_preV hK hSO hS hT ha0 rfl rfl) rfl rfl hl.1 rfl (lv_room (Nat.le_of_ble_eq_true rfl)) dX6_readWay_89 ⟨Nat.zero_le _, Nat.zero_le _⟩) hS (pW_sub rfl) (fun v89 H locs hB hS _ hk89 => ?_)
            obtain ⟨hT, hv89, ⟨w89_0, hw89_0, hwi89_0, hwp89_0⟩⟩ := hB
            have kl30 : (30 : Int32).toInt = 30 := by decide
            refine ti_put (ty := .int) hx hb hts inlX3 tyX3 tyX3_ok nmX3 hown hK hT hS ha1 rfl rfl rfl rfl 3 (by decide) (hts _ kw_327) (fun _ h9 => h9) rfl rfl (by decide +kernel) rfl rfl ⟨v89, rfl, iv_w hv89 (by decide)⟩ (fun _ _ => trivial) dX6_readWay_92 (fun H locs hT hS oq92 he92 hk92 => ?_)
            refine lv_goto (tgt := 116) hx hb dX6_readWay_95 (by decide) ?_
            exact ret _ _ _ _ dX6_readWay_116 (hT) hS
        · skip
          have f57 := i_ne c57
          have hv54_57l : iv v54 1 1 := iv_nel hv54 (iv_c (x := (0 : Int32)) (k := 0) (by decide)) c57 (by decide)
          refine lv_aload_n hx hb dX6_readWay_60 rfl (lv_at hl 1 rfl) ?_
          refine lv_iconst (v := 5) hx hb dX6_readWay_61 (by decide) ?_
          refine ti_put (ty := .int) hx hb hts inlX3 tyX3 tyX3_ok nmX3 hown hK hT hS ha1 rfl rfl rfl rfl 2 (by decide) (hts _ kw_326) (fun _ h9 => h9) rfl rfl (by decide +kernel) rfl rfl ⟨(5 : Int32), rfl, iv_w (iv_c (x := (5 : Int32)) (k := 5) (by decide)) (by decide)⟩ (fun _ _ => trivial) dX6_readWay_62 (fun H locs hT hS oq62 he62 hk62 => ?_)
          refine lv_goto (tgt := 116) hx hb dX6_readWay_65 (by decide) ?_
          exact ret _ _ _ _ dX6_readWay_116 (hT) hS
      · skip
        have f40 := i_ne c40
        have hv37_40l : iv v37 1 1 := iv_nel hv37 (iv_c (x := (0 : Int32)) (k := 0) (by decide)) c40 (by decide)
        refine lv_aload_n hx hb dX6_readWay_43 rfl (lv_at hl 1 rfl) ?_
        refine lv_iconst (v := 4) hx hb dX6_readWay_44 (by decide) ?_
        refine ti_put (ty := .int) hx hb hts inlX3 tyX3 tyX3_ok nmX3 hown hK hT hS ha1 rfl rfl rfl rfl 2 (by decide) (hts _ kw_326) (fun _ h9 => h9) rfl rfl (by decide +kernel) rfl rfl ⟨(4 : Int32), rfl, iv_w (iv_c (x := (4 : Int32)) (k := 4) (by decide)) (by decide)⟩ (fun _ _ => trivial) dX6_readWay_45 (fun H locs hT hS oq45 he45 hk45 => ?_)
        refine lv_goto (tgt := 116) hx hb dX6_readWay_48 (by decide) ?_
        exact ret _ _ _ _ dX6_readWay_116 (hT) hS
    · skip
      have f23 := i_ne c23
      have hv20_23l : iv v20 1 1 := iv_nel hv20 (iv_c (x := (0 : Int32)) (k := 0) (by decide)) c23 (by decide)
      refine lv_aload_n hx hb dX6_readWay_26 rfl (lv_at hl 1 rfl) ?_
      refine lv_iconst (v := 1) hx hb dX6_readWay_27 (by decide) ?_
      refine ti_put (ty := .int) hx hb hts inlX3 tyX3 tyX3_ok nmX3 hown hK hT hS ha1 rfl rfl rfl rfl 2 (by decide) (hts _ kw_326) (fun _ h9 => h9) rfl rfl (by decide +kernel) rfl rfl ⟨(1 : Int32), rfl, iv_w (iv_c (x := (1 : Int32)) (k := 1) (by decide)) (by decide)⟩ (fun _ _ => trivial) dX6_readWay_28 (fun H locs hT hS oq28 he28 hk28 => ?_)
      refine lv_goto (tgt := 116) hx hb dX6_readWay_31 (by decide) ?_
      exact ret _ _ _ _ dX6_readWay_116 (hT) hS
  · skip
    have kl0 : (0 : Int32).toInt = 0 := by decide
    have f6 := i_ne c6
    have hv3_6l : iv v3 1 1 := iv_nel hv3 (iv_c (x := (0 : Int32)) (k := 0) (by decide)) c6 (by decide)
    refine lv_aload_n hx hb dX6_readWay_9 rfl (lv_at hl 1 rfl) ?_
    refine lv_iconst (v := 0) hx hb dX6_readWay_10 (by decide) ?_
    refine ti_put (ty := .int) hx hb hts inlX3 tyX3 tyX3_ok nmX3 hown hK hT hS ha1 rfl rfl rfl rfl 2 (by decide) (hts _ kw_326) (fun _ h9 => h9) rfl rfl (by decide +kernel) rfl rfl ⟨(0 : Int32), rfl, iv_w (iv_c (x := (0 : Int32)) (k := 0) (by decide)) (by decide)⟩ (fun _ _ => trivial) dX6_readWay_11 (fun H locs hT hS oq11 he11 hk11 => ?_)
    refine lv_goto (tgt := 116) hx hb dX6_readWay_14 (by decide) ?_
    exact ret _ _ _ _ dX6_readWay_116 (hT) hS
set_option maxHeartbeats 4000000 in
set_option maxRecDepth 100000 in
theorem t_X6_readPerson (l : Launch) {D : va_G} {c0 : Nat → ClassId} {Y : Nat → Option Nat} {ν : Nat → Nat} {adK adV : Nat → Nat} {H : Heap} (hT : TI D vwCl (tysOf c0) (RTg ν) Y H) {a0 : Nat} (ha0 : Y a0 = some 6) : Met l yX6_readPerson (wz yX6_readPerson cX6_readPerson 2 none) { frames := 8, cells := 0, slots := 0, locals := 172 } (TPs D (tysOf c0) Y adK adV H [.ref a0]) (TQv (fun H' => TI D vwCl (tysOf c0) (RTg ν) Y H') Y [3, 6, 7]) 0 0 (pW Y [3, 6, 7]) := by
  refine Met.ofW (cc := cX6_readPerson) (maxL := 2) (ret := none) (by decide) rfl ?_
  intro p e s m args below meth c s₁ B hml hv
  obtain ⟨rfl, rfl, hK, hSO⟩ := hv
  have hx := B.exec
  have hb := B.bytes
  have hr := B.returns
  have hts : ∀ w ∈ wq, w.before _ s = true := fun w h => atoms_spec (ws := wz yX6_readPerson cX6_readPerson 2 none) B.pre w (List.mem_cons_of_mem _ h)
  have hown : s.vm.findClass RX6 = some m.cls := findClass_of_methodNamed B.named
  have hlocks := B.notSynchronized
  obtain ⟨R, hR⟩ : ∃ R : Room, R = ({ frames := 8, cells := 0, slots := 0, locals := 172 } : Room) := ⟨_, rfl⟩
  rw [show (headSpec (wz yX6_readPerson cX6_readPerson 2 none) { frames := 8, cells := 0, slots := 0, locals := 172 }).room = R from hR.symm]
  refine ti_mv hx hb hr hlocks (fun Q ret => ?_)
  have hl := lv_entry [.ref a0] (n := 2) (Nat.le_of_ble_eq_true rfl)
  rw [lg_entry_eq]
  generalize (lg_sl [.ref a0] ++ List.replicate (2 - (lg_sl [.ref a0]).length) Slot.unset).toArray = ls at hl ⊢
  have hl : lv_has ls 2 [(0, .ref a0)] := hl
  refine ti_gen (P := fun H => TI D vwCl (tysOf c0) (RTg ν) Y H) (Y := Y) (ws := [3, 6, 7]) hT (fun H locs hT hS => ?_)
  refine lv_aload_n hx hb dX6_readPerson_0 rfl (lv_at hl 0 rfl) ?_
  refine ti_getr hx hb hts inlX6 hown hK hT ha0 rfl rfl rfl 2 (by decide) (hts _ kw_50) (fun _ h9 => h9) rfl dX6_readPerson_1 (fun v1 hv1 hm1 => ?_)
  refine ti_geti hx hb hts inlX7 hown hK hT hv1 rfl rfl rfl 1 (by decide) (hts _ kw_307) (fun _ h9 => h9) rfl dX6_readPerson_4 (fun v4 hv4 hm4 => ?_)
  refine lv_bipush (v := 8) hx hb dX6_readPerson_7 (by decide) ?_
  refine lv_icmp_lt (tgt := 18) hx hb dX6_readPerson_9 (by decide) (fun c9 => ?_) (fun c9 => ?_)
  · skip
    have kl8 : (8 : Int32).toInt = 8 := by decide
    have f9 := i_lt c9
    have hv4_9l : iv v4 0 7 := iv_ltl hv4 (iv_c (x := (8 : Int32)) (k := 8) (by decide)) c9 (by decide)
    refine lv_aload_n hx hb dX6_readPerson_18 rfl (lv_at hl 0 rfl) ?_
    refine ti_getE (ci := 6) (v := .ref v1) hx hb hts inlX6 hown hK hm1 rfl (by decide) (hts _ kw_50) (fun _ h9 => h9) dX6_readPerson_19 ?_
    refine ti_getr hx hb hts inlX7 hown hK hT hv1 rfl rfl rfl 8 (by decide) (hts _ kw_308) (fun _ h9 => h9) rfl dX6_readPerson_22 (fun v22 hv22 hm22 => ?_)
    refine lv_aload_n hx hb dX6_readPerson_25 rfl (lv_at hl 0 rfl) ?_
    refine ti_getE (ci := 6) (v := .ref v1) hx hb hts inlX6 hown hK hm1 rfl (by decide) (hts _ kw_50) (fun _ h9 => h9) dX6_readPerson_26 ?_
    refine ti_getE (ci := 7) (v := .int v4) hx hb hts inlX7 hown hK hm4 rfl (by decide) (hts _ kw_307) (fun _ h9 => h9) dX6_readPerson_29 ?_
    refine ti_aald hx hb (aT6 hK) hT hv22 rfl hv4_9l (by decide) (fun _ _ _ => rfl) dX6_readPerson_32 (fun v32 hv32 => ?_)
    refine lv_astore_n (lv' := [(1, .ref v32), (0, .ref a0)]) hx hb dX6_readPerson_33 rfl hl (by decide) rfl (fun ls hl => ?_)
    refine lv_aload_n hx hb dX6_readPerson_34 rfl (lv_at hl 1 rfl) ?_
    refine ti_getE (ci := 6) (v := .ref v1) hx hb hts inlX6 hown hK hm1 rfl (by decide) (hts _ kw_50) (fun _ h9 => h9) dX6_readPerson_35 ?_
    refine ti_callv (va_runV (As := []) (rest := []) ⟨hx, hb, hml, hown, hts⟩ (t_X7_addPerson l hT hv1 hm4 (iv_w hv4_9l (by decide))) (cwV 0 hts (good_V kw_315 kw_316 kw_317 kw_19 kw_318) rfl rfl rfl (by decide +kernel) ⟨by rw [hR]; decide, by rw [hR]; decide⟩) (ti_preV hK hT hv1 rfl rfl) rfl rfl hl.1 rfl (lv_room (Nat.le_of_ble_eq_true rfl)) dX6_readPerson_38 ⟨Nat.zero_le _, Nat.zero_le _⟩) hS (pW_sub rfl) (fun H locs hB hS _ hk38 => ?_)
    have hT := hB
    refine lv_aload_n hx hb dX6_readPerson_41 rfl (lv_at hl 1 rfl) ?_
    refine va_ldcS (q := adK 10) hx hb hown (hSO.2.2.2 (RX6, 80, "person", 10) (by decide +kernel)) dX6_readPerson_42 ?_
    obtain ⟨g44_10, hg44_10, hmg44_10⟩ := ti_fi hT ha0 rfl rfl rfl 10 rfl
    refine ti_callv (va_runV (As := [.ref (adK 10)]) (rest := []) ⟨hx, hb, hml, hown, hts⟩ (t_X6_take l hT ha0 (by decide) hmg44_10 (iv_w hg44_10 (by decide))) (cwV 1 hts (good_V kw_217 kw_218 kw_219 kw_15 kw_220) rfl rfl rfl (by decide +kernel) ⟨by rw [hR]; decide, by rw [hR]; decide⟩) (ts_preV hK hSO hS hT ha0 rfl rfl) rfl rfl hl.1 rfl (lv_room (Nat.le_of_ble_eq_true rfl)) dX6_readPerson_44 ⟨Nat.zero_le _, Nat.zero_le _⟩) hS (pW_sub rfl) (fun H locs hB hS _ hk44 => ?_)
    obtain ⟨hT, ⟨w44_0, hw44_0, hwi44_0, hwp44_0⟩⟩ := hB
    refine lv_aload_n hx hb dX6_readPerson_47 rfl (lv_at hl 0 rfl) ?_
    refine lv_aload_n hx hb dX6_readPerson_48 rfl (lv_at hl 1 rfl) ?_
    refine va_ldcS (q := adK 11) hx hb hown (hSO.2.2.2 (RX6, 177, "has", 11) (by decide +kernel)) dX6_readPerson_49 ?_
    refine lv_iconst (v := 0) hx hb dX6_readPerson_51 (by decide) ?_
    refine lv_aload_n hx hb dX6_readPerson_52 rfl (lv_at hl 1 rfl) ?_
    refine ti_getr hx hb hts inlX6 hown hK hT ha0 rfl rfl rfl 2 (by decide) (hts _ kw_50) (fun _ h9 => h9) rfl dX6_readPerson_53 (fun v53 hv53 hm53 => ?_)
    refine ti_geti hx hb hts inlX7 hown hK hT hv53 rfl rfl rfl 0 (by decide) (hts _ kw_201) (fun _ h9 => h9) rfl dX6_readPerson_56 (fun v56 hv56 hm56 => ?_)
    refine ti_calli (va_runV (As := [.ref (adK 11), .int (0 : Int32), .int v56]) (rest := [.ref v32]) ⟨hx, hb, hml, hown, hts⟩ (t_X6_takeNamed l hT ha0 (by decide) (iv_w (iv_c (x := (0 : Int32)) (k := 0) (by decide)) (by decide)) (iv_w hv56 (by decide)) hw44_0 (iv_w hwi44_0 (by decide))) (cwV 3 hts (good_V kw_278 kw_279 kw_280 kw_15 kw_281) rfl rfl rfl (by decide +kernel) ⟨by rw [hR]; decide, by rw [hR]; decide⟩) (ts_preV hK hSO hS hT ha0 rfl rfl) rfl rfl hl.1 rfl (lv_room (Nat.le_of_ble_eq_true rfl)) dX6_readPerson_59 ⟨Nat.zero_le _, Nat.zero_le _⟩) hS (pW_sub rfl) (fun v59 H locs hB hS _ hk59 => ?_)
    obtain ⟨hT, hv59, ⟨w59_0, hw59_0, hwi59_0, hwp59_0⟩⟩ := hB
    have kl0 : (0 : Int32).toInt = 0 := by decide
    refine ti_put (ty := .int) hx hb hts inlX3 tyX3 tyX3_ok nmX3 hown hK hT hS hv32 rfl rfl rfl rfl 0 (by decide) (hts _ kw_309) (fun _ h9 => h9) rfl rfl (by decide +kernel) rfl rfl ⟨v59, rfl, iv_w hv59 (by decide)⟩ (fun _ _ => trivial) dX6_readPerson_62 (fun H locs hT hS oq62 he62 hk62 => ?_)
    refine lv_aload_n hx hb dX6_readPerson_65 rfl (lv_at hl 0 rfl) ?_
    refine lv_aload_n hx hb dX6_readPerson_66 rfl (lv_at hl 1 rfl) ?_
    refine va_ldcS (q := adK 12) hx hb hown (hSO.2.2.2 (RX6, 183, "brings", 12) (by decide +kernel)) dX6_readPerson_67 ?_
    refine lv_iconst (v := 0) hx hb dX6_readPerson_69 (by decide) ?_
    refine lv_bipush (v := 9) hx hb dX6_readPerson_70 (by decide) ?_
    refine ti_calli (va_runV (As := [.ref (adK 12), .int (0 : Int32), .int (9 : Int32)]) (rest := [.ref v32]) ⟨hx, hb, hml, hown, hts⟩ (t_X6_takeNamed l hT ha0 (by decide) (iv_w (iv_c (x := (0 : Int32)) (k := 0) (by decide)) (by decide)) (iv_w (iv_c (x := (9 : Int32)) (k := 9) (by decide)) (by decide)) (hw59_0.kept (oq62 _ (ne_r ha0 hv32 rfl))) (iv_w hwi59_0 (by decide))) (cwV 3 hts (good_V kw_278 kw_279 kw_280 kw_15 kw_281) rfl rfl rfl (by decide +kernel) ⟨by rw [hR]; decide, by rw [hR]; decide⟩) (ts_preV hK hSO hS hT ha0 rfl rfl) rfl rfl hl.1 rfl (lv_room (Nat.le_of_ble_eq_true rfl)) dX6_readPerson_72 ⟨Nat.zero_le _, Nat.zero_le _⟩) hS (pW_sub rfl) (fun v72 H locs hB hS _ hk72 => ?_)
    obtain ⟨hT, hv72, ⟨w72_0, hw72_0, hwi72_0, hwp72_0⟩⟩ := hB
    have kl9 : (9 : Int32).toInt = 9 := by decide
    refine ti_put (ty := .int) hx hb hts inlX3 tyX3 tyX3_ok nmX3 hown hK hT hS hv32 rfl rfl rfl rfl 5 (by decide) (hts _ kw_310) (fun _ h9 => h9) rfl rfl (by decide +kernel) rfl rfl ⟨v72, rfl, iv_w hv72 (by decide)⟩ (fun _ _ => trivial) dX6_readPerson_75 (fun H locs hT hS oq75 he75 hk75 => ?_)
    refine lv_aload_n hx hb dX6_readPerson_78 rfl (lv_at hl 0 rfl) ?_
    refine lv_aload_n hx hb dX6_readPerson_79 rfl (lv_at hl 1 rfl) ?_
    refine va_ldcS (q := adK 13) hx hb hown (hSO.2.2.2 (RX6, 187, "tires", 13) (by decide +kernel)) dX6_readPerson_80 ?_
    refine lv_iconst (v := 0) hx hb dX6_readPerson_82 (by decide) ?_
    refine lv_bipush (v := 99) hx hb dX6_readPerson_83 (by decide) ?_
    refine ti_calli (va_runV (As := [.ref (adK 13), .int (0 : Int32), .int (99 : Int32)]) (rest := [.ref v32]) ⟨hx, hb, hml, hown, hts⟩ (t_X6_takeNamed l hT ha0 (by decide) (iv_w (iv_c (x := (0 : Int32)) (k := 0) (by decide)) (by decide)) (iv_w (iv_c (x := (99 : Int32)) (k := 99) (by decide)) (by decide)) (hw72_0.kept (oq75 _ (ne_r ha0 hv32 rfl))) (iv_w hwi72_0 (by decide))) (cwV 3 hts (good_V kw_278 kw_279 kw_280 kw_15 kw_281) rfl rfl rfl (by decide +kernel) ⟨by rw [hR]; decide, by rw [hR]; decide⟩) (ts_preV hK hSO hS hT ha0 rfl rfl) rfl rfl hl.1 rfl (lv_room (Nat.le_of_ble_eq_true rfl)) dX6_readPerson_85 ⟨Nat.zero_le _, Nat.zero_le _⟩) hS (pW_sub rfl) (fun v85 H locs hB hS _ hk85 => ?_)
    obtain ⟨hT, hv85, ⟨w85_0, hw85_0, hwi85_0, hwp85_0⟩⟩ := hB
    have kl99 : (99 : Int32).toInt = 99 := by decide
    refine ti_put (ty := .int) hx hb hts inlX3 tyX3 tyX3_ok nmX3 hown hK hT hS hv32 rfl rfl rfl rfl 6 (by decide) (hts _ kw_311) (fun _ h9 => h9) rfl rfl (by decide +kernel) rfl rfl ⟨v85, rfl, iv_w hv85 (by decide)⟩ (fun _ _ => trivial) dX6_readPerson_88 (fun H locs hT hS oq88 he88 hk88 => ?_)
    refine lv_aload_n hx hb dX6_readPerson_91 rfl (lv_at hl 0 rfl) ?_
    refine lv_aload_n hx hb dX6_readPerson_92 rfl (lv_at hl 1 rfl) ?_
    refine va_ldcS (q := adK 14) hx hb hown (hSO.2.2.2 (RX6, 191, "worth", 14) (by decide +kernel)) dX6_readPerson_93 ?_
    refine lv_iconst (v := 0) hx hb dX6_readPerson_95 (by decide) ?_
    refine lv_bipush (v := 99) hx hb dX6_readPerson_96 (by decide) ?_
    refine ti_calli (va_runV (As := [.ref (adK 14), .int (0 : Int32), .int (99 : Int32)]) (rest := [.ref v32]) ⟨hx, hb, hml, hown, hts⟩ (t_X6_takeNamed l hT ha0 (by decide) (iv_w (iv_c (x := (0 : Int32)) (k := 0) (by decide)) (by decide)) (iv_w (iv_c (x := (99 : Int32)) (k := 99) (by decide)) (by decide)) (hw85_0.kept (oq88 _ (ne_r ha0 hv32 rfl))) (iv_w hwi85_0 (by decide))) (cwV 3 hts (good_V kw_278 kw_279 kw_280 kw_15 kw_281) rfl rfl rfl (by decide +kernel) ⟨by rw [hR]; decide, by rw [hR]; decide⟩) (ts_preV hK hSO hS hT ha0 rfl rfl) rfl rfl hl.1 rfl (lv_room (Nat.le_of_ble_eq_true rfl)) dX6_readPerson_98 ⟨Nat.zero_le _, Nat.zero_le _⟩) hS (pW_sub rfl) (fun v98 H locs hB hS _ hk98 => ?_)
    obtain ⟨hT, hv98, ⟨w98_0, hw98_0, hwi98_0, hwp98_0⟩⟩ := hB
    refine ti_put (ty := .int) hx hb hts inlX3 tyX3 tyX3_ok nmX3 hown hK hT hS hv32 rfl rfl rfl rfl 7 (by decide) (hts _ kw_312) (fun _ h9 => h9) rfl rfl (by decide +kernel) rfl rfl ⟨v98, rfl, iv_w hv98 (by decide)⟩ (fun _ _ => trivial) dX6_readPerson_101 (fun H locs hT hS oq101 he101 hk101 => ?_)
    refine lv_aload_n hx hb dX6_readPerson_104 rfl (lv_at hl 0 rfl) ?_
    refine lv_aload_n hx hb dX6_readPerson_105 rfl (lv_at hl 1 rfl) ?_
    refine va_ldcS (q := adK 15) hx hb hown (hSO.2.2.2 (RX6, 195, "eats", 15) (by decide +kernel)) dX6_readPerson_106 ?_
    refine lv_iconst (v := 0) hx hb dX6_readPerson_108 (by decide) ?_
    refine lv_bipush (v := 99) hx hb dX6_readPerson_109 (by decide) ?_
    refine ti_calli (va_runV (As := [.ref (adK 15), .int (0 : Int32), .int (99 : Int32)]) (rest := [.ref v32]) ⟨hx, hb, hml, hown, hts⟩ (t_X6_takeNamed l hT ha0 (by decide) (iv_w (iv_c (x := (0 : Int32)) (k := 0) (by decide)) (by decide)) (iv_w (iv_c (x := (99 : Int32)) (k := 99) (by decide)) (by decide)) (hw98_0.kept (oq101 _ (ne_r ha0 hv32 rfl))) (iv_w hwi98_0 (by decide))) (cwV 3 hts (good_V kw_278 kw_279 kw_280 kw_15 kw_281) rfl rfl rfl (by decide +kernel) ⟨by rw [hR]; decide, by rw [hR]; decide⟩) (ts_preV hK hSO hS hT ha0 rfl rfl) rfl rfl hl.1 rfl (lv_room (Nat.le_of_ble_eq_true rfl)) dX6_readPerson_111 ⟨Nat.zero_le _, Nat.zero_le _⟩) hS (pW_sub rfl) (fun v111 H locs hB hS _ hk111 => ?_)
    obtain ⟨hT, hv111, ⟨w111_0, hw111_0, hwi111_0, hwp111_0⟩⟩ := hB
    refine ti_put (ty := .int) hx hb hts inlX3 tyX3 tyX3_ok nmX3 hown hK hT hS hv32 rfl rfl rfl rfl 8 (by decide) (hts _ kw_313) (fun _ h9 => h9) rfl rfl (by decide +kernel) rfl rfl ⟨v111, rfl, iv_w hv111 (by decide)⟩ (fun _ _ => trivial) dX6_readPerson_114 (fun H locs hT hS oq114 he114 hk114 => ?_)
    refine lv_aload_n hx hb dX6_readPerson_117 rfl (lv_at hl 0 rfl) ?_
    refine lv_aload_n hx hb dX6_readPerson_118 rfl (lv_at hl 1 rfl) ?_
    refine va_ldcS (q := adK 16) hx hb hown (hSO.2.2.2 (RX6, 199, "dulls", 16) (by decide +kernel)) dX6_readPerson_119 ?_
    refine lv_iconst (v := 0) hx hb dX6_readPerson_121 (by decide) ?_
    refine lv_bipush (v := 99) hx hb dX6_readPerson_122 (by decide) ?_
    refine ti_calli (va_runV (As := [.ref (adK 16), .int (0 : Int32), .int (99 : Int32)]) (rest := [.ref v32]) ⟨hx, hb, hml, hown, hts⟩ (t_X6_takeNamed l hT ha0 (by decide) (iv_w (iv_c (x := (0 : Int32)) (k := 0) (by decide)) (by decide)) (iv_w (iv_c (x := (99 : Int32)) (k := 99) (by decide)) (by decide)) (hw111_0.kept (oq114 _ (ne_r ha0 hv32 rfl))) (iv_w hwi111_0 (by decide))) (cwV 3 hts (good_V kw_278 kw_279 kw_280 kw_15 kw_281) rfl rfl rfl (by decide +kernel) ⟨by rw [hR]; decide, by rw [hR]; decide⟩) (ts_preV hK hSO hS hT ha0 rfl rfl) rfl rfl hl.1 rfl (lv_room (Nat.le_of_ble_eq_true rfl)) dX6_readPerson_124 ⟨Nat.zero_le _, Nat.zero_le _⟩) hS (pW_sub rfl) (fun v124 H locs hB hS _ hk124 => ?_)
    obtain ⟨hT, hv124, ⟨w124_0, hw124_0, hwi124_0, hwp124_0⟩⟩ := hB
    refine ti_put (ty := .int) hx hb hts inlX3 tyX3 tyX3_ok nmX3 hown hK hT hS hv32 rfl rfl rfl rfl 9 (by decide) (hts _ kw_314) (fun _ h9 => h9) rfl rfl (by decide +kernel) rfl rfl ⟨v124, rfl, iv_w hv124 (by decide)⟩ (fun _ _ => trivial) dX6_readPerson_127 (fun H locs hT hS oq127 he127 hk127 => ?_)
    refine lv_aload_n hx hb dX6_readPerson_130 rfl (lv_at hl 1 rfl) ?_
    refine lv_aload_n hx hb dX6_readPerson_131 rfl (lv_at hl 0 rfl) ?_
    refine ti_callv (va_runV (As := [.ref v32]) (rest := []) ⟨hx, hb, hml, hown, hts⟩ (t_X6_readWay l hT ha0 hv32) (cwV 1 hts (good_V kw_322 kw_323 kw_324 kw_15 kw_325) rfl rfl rfl (by decide +kernel) ⟨by rw [hR]; decide, by rw [hR]; decide⟩) (ts_preV hK hSO hS hT ha0 rfl rfl) rfl rfl hl.1 rfl (lv_room (Nat.le_of_ble_eq_true rfl)) dX6_readPerson_132 ⟨Nat.zero_le _, Nat.zero_le _⟩) hS (pW_sub rfl) (fun H locs hB hS _ hk132 => ?_)
    have hT := hB
    exact ret _ _ _ _ dX6_readPerson_135 (hT) hS
  · skip
    have kl8 : (8 : Int32).toInt = 8 := by decide
    have f9 := i_nlt c9
    have hv4_9r : iv v4 8 8 := iv_ler (iv_c (x := (8 : Int32)) (k := 8) (by decide)) hv4 (Int32.not_lt.mp c9) (by decide)
    refine lv_aload_n hx hb dX6_readPerson_12 rfl (lv_at hl 0 rfl) ?_
    refine lv_iconst (v := 3) hx hb dX6_readPerson_13 (by decide) ?_
    refine ti_callv (va_runV (As := [.int (3 : Int32)]) (rest := []) ⟨hx, hb, hml, hown, hts⟩ (t_X6_fail l hT ha0 (iv_w (iv_c (x := (3 : Int32)) (k := 3) (by decide)) (by decide))) (cwV 1 hts (good_V kw_274 kw_275 kw_276 kw_15 kw_277) rfl rfl rfl (by decide +kernel) ⟨by rw [hR]; decide, by rw [hR]; decide⟩) (ti_preV hK hT ha0 rfl rfl) rfl rfl hl.1 rfl (lv_room (Nat.le_of_ble_eq_true rfl)) dX6_readPerson_14 ⟨Nat.zero_le _, Nat.zero_le _⟩) hS (pW_sub rfl) (fun H locs hB hS _ hk14 => ?_)
    obtain ⟨hT, ⟨w14_0, hw14_0, hwi14_0, hwp14_0⟩⟩ := hB
    exact ret _ _ _ _ dX6_readPerson_17 (hT) hS
set_option maxHeartbeats 4000000 in
set_option maxRecDepth 100000 in
theorem t_X6_readSight (l : Launch) {D : va_G} {c0 : Nat → ClassId} {Y : Nat → Option Nat} {ν : Nat → Nat} {adK adV : Nat → Nat} {H : Heap} (hT : TI D vwCl (tysOf c0) (RTg ν) Y H) {a0 : Nat} (ha0 : Y a0 = some 6) : Met l yX6_readSight (wz yX6_readSight cX6_readSight 4 none) { frames := 7, cells := 0, slots := 0, locals := 151 } (TPs D (tysOf c0) Y adK adV H [.ref a0]) (TQv (fun H' => TI D vwCl (tysOf c0) (RTg ν) Y H') Y [6, 22]) 0 0 (pW Y [6, 22]) := by
  refine Met.ofW (cc := cX6_readSight) (maxL := 4) (ret := none) (by decide) rfl ?_
  intro p e s m args below meth c s₁ B hml hv
  obtain ⟨rfl, rfl, hK, hSO⟩ := hv
  have hx := B.exec
  have hb := B.bytes
  have hr := B.returns
  have hts : ∀ w ∈ wq, w.before _ s = true := fun w h => atoms_spec (ws := wz yX6_readSight cX6_readSight 4 none) B.pre w (List.mem_cons_of_mem _ h)
  have hown : s.vm.findClass RX6 = some m.cls := findClass_of_methodNamed B.named
  have hlocks := B.notSynchronized
  obtain ⟨R, hR⟩ : ∃ R : Room, R = ({ frames := 7, cells := 0, slots := 0, locals := 151 } : Room) := ⟨_, rfl⟩
  rw [show (headSpec (wz yX6_readSight cX6_readSight 4 none) { frames := 7, cells := 0, slots := 0, locals := 151 }).room = R from hR.symm]
  refine ti_mv hx hb hr hlocks (fun Q ret => ?_)
  have hl := lv_entry [.ref a0] (n := 4) (Nat.le_of_ble_eq_true rfl)
  rw [lg_entry_eq]
  generalize (lg_sl [.ref a0] ++ List.replicate (4 - (lg_sl [.ref a0]).length) Slot.unset).toArray = ls at hl ⊢
  have hl : lv_has ls 4 [(0, .ref a0)] := hl
  refine ti_gen (P := fun H => TI D vwCl (tysOf c0) (RTg ν) Y H) (Y := Y) (ws := [6, 22]) hT (fun H locs hT hS => ?_)
  refine lv_aload_n hx hb dX6_readSight_0 rfl (lv_at hl 0 rfl) ?_
  refine ti_geti hx hb hts inlX6 hown hK hT ha0 rfl rfl rfl 9 (by decide) (hts _ kw_197) (fun _ h9 => h9) rfl dX6_readSight_1 (fun v1 hv1 hm1 => ?_)
  refine lv_bipush (v := 12) hx hb dX6_readSight_4 (by decide) ?_
  refine lv_icmp_lt (tgt := 15) hx hb dX6_readSight_6 (by decide) (fun c6 => ?_) (fun c6 => ?_)
  · skip
    have kl12 : (12 : Int32).toInt = 12 := by decide
    have f6 := i_lt c6
    have hv1_6l : iv v1 (-2147483648) 11 := iv_ltl hv1 (iv_c (x := (12 : Int32)) (k := 12) (by decide)) c6 (by decide)
    refine lv_aload_n hx hb dX6_readSight_15 rfl (lv_at hl 0 rfl) ?_
    refine lv_dup hx hb dX6_readSight_16 rfl ?_
    refine ti_getE (ci := 6) (v := .int v1) hx hb hts inlX6 hown hK hm1 rfl (by decide) (hts _ kw_197) (fun _ h9 => h9) dX6_readSight_17 ?_
    refine lv_iconst (v := 1) hx hb dX6_readSight_20 (by decide) ?_
    refine lv_iadd hx hb dX6_readSight_21 ?_
    refine lv_topi (fun v21 e21 => ?_)
    have hv21 : iv v21 (-2147483647) 12 := by rw [e21]; exact iv_w (iv_add hv1_6l (iv_c (x := (1 : Int32)) (k := 1) (by decide)) (by decide)) (by decide)
    have s21 : v21.toInt = v1.toInt + 1 := by rw [e21, iv_addE hv1_6l (iv_c (x := (1 : Int32)) (k := 1) (by decide)) (by decide)]; rfl
    have kl1 : (1 : Int32).toInt = 1 := by decide
    refine ti_put (ty := .int) hx hb hts inlX6 tyX6 tyX6_ok nmX6 hown hK hT hS ha0 rfl rfl rfl rfl 9 (by decide) (hts _ kw_197) (fun _ h9 => h9) rfl rfl (by decide +kernel) rfl rfl ⟨v21, rfl, iv_w hv21 (by decide)⟩ (fun _ _ => trivial) dX6_readSight_22 (fun H locs hT hS oq22 he22 hk22 => ?_)
    refine lv_aload_n hx hb dX6_readSight_25 rfl (lv_at hl 0 rfl) ?_
    refine va_ldcS (q := adK 23) hx hb hown (hSO.2.2.2 (RX6, 85, "sees", 23) (by decide +kernel)) dX6_readSight_26 ?_
    refine lv_iconst (v := 0) hx hb dX6_readSight_28 (by decide) ?_
    refine lv_aload_n hx hb dX6_readSight_29 rfl (lv_at hl 0 rfl) ?_
    refine ti_getr hx hb hts inlX6 hown hK hT ha0 rfl rfl rfl 2 (by decide) (hts _ kw_50) (fun _ h9 => h9) rfl dX6_readSight_30 (fun v30 hv30 hm30 => ?_)
    refine ti_geti hx hb hts inlX7 hown hK hT hv30 rfl rfl rfl 1 (by decide) (hts _ kw_307) (fun _ h9 => h9) rfl dX6_readSight_33 (fun v33 hv33 hm33 => ?_)
    refine lv_iconst (v := 1) hx hb dX6_readSight_36 (by decide) ?_
    refine lv_isub hx hb dX6_readSight_37 ?_
    refine lv_topi (fun v37 e37 => ?_)
    have hv37 : iv v37 (-1) 7 := by rw [e37]; exact iv_w (iv_sub hv33 (iv_c (x := (1 : Int32)) (k := 1) (by decide)) (by decide)) (by decide)
    have s37 : v37.toInt = v33.toInt - (1 : Int32).toInt := by rw [e37]; exact iv_subE hv33 (iv_c (x := (1 : Int32)) (k := 1) (by decide)) (by decide)
    obtain ⟨g38_10, hg38_10, hmg38_10⟩ := ti_fi hT ha0 rfl rfl rfl 10 rfl
    refine ti_calli (va_runV (As := [.ref (adK 23), .int (0 : Int32), .int v37]) (rest := []) ⟨hx, hb, hml, hown, hts⟩ (t_X6_takeNamed l hT ha0 (by decide) (iv_w (iv_c (x := (0 : Int32)) (k := 0) (by decide)) (by decide)) (iv_w hv37 (by decide)) hmg38_10 (iv_w hg38_10 (by decide))) (cwV 3 hts (good_V kw_278 kw_279 kw_280 kw_15 kw_281) rfl rfl rfl (by decide +kernel) ⟨by rw [hR]; decide, by rw [hR]; decide⟩) (ts_preV hK hSO hS hT ha0 rfl rfl) rfl rfl hl.1 rfl (lv_room (Nat.le_of_ble_eq_true rfl)) dX6_readSight_38 ⟨Nat.zero_le _, Nat.zero_le _⟩) hS (pW_sub rfl) (fun v38 H locs hB hS _ hk38 => ?_)
    obtain ⟨hT, hv38, ⟨w38_0, hw38_0, hwi38_0, hwp38_0⟩⟩ := hB
    have kl0 : (0 : Int32).toInt = 0 := by decide
    refine lv_istore_n (lv' := [(1, .int v38), (0, .ref a0)]) hx hb dX6_readSight_41 rfl hl (by decide) rfl (fun ls hl => ?_)
    refine lv_aload_n hx hb dX6_readSight_42 rfl (lv_at hl 1 rfl) ?_
    refine ti_geti hx hb hts inlX6 hown hK hT ha0 rfl rfl rfl 3 (by decide) (hts _ kw_199) (fun _ h9 => h9) rfl dX6_readSight_43 (fun v43 hv43 hm43 => ?_)
    refine lv_iconst (v := 2) hx hb dX6_readSight_46 (by decide) ?_
    have J63 : ∀ (j63_Ma0_10 : Int32) (H : Heap) (locs : List Loc) (ls : Array Slot), iv j63_Ma0_10 (-2147483648) 2147483647 → fi D vwCl a0 6 10 (.int j63_Ma0_10) H → (j63_Ma0_10.toInt = 0 → w38_0.toInt = 0) → TI D vwCl (tysOf c0) (RTg ν) Y H → va_S (pW Y [6, 22]) s.heap H locs → lv_has ls 4 [(0, .ref a0), (1, .int v38)] → W p l e R s m ([.ref a0] : List Value).toArray below meth c H locs 0 0 Q (F0 m 63 ls []) := by
      intro j63_Ma0_10 H locs ls hj63_Ma0_10 hM63_a0_10 hT63_0 hT hS hl
      refine lv_aload_n hx hb dX6_readSight_63 rfl (lv_at hl 0 rfl) ?_
      refine lv_iconst (v := 0) hx hb dX6_readSight_64 (by decide) ?_
      refine lv_aload_n hx hb dX6_readSight_65 rfl (lv_at hl 0 rfl) ?_
      refine ti_getr hx hb hts inlX6 hown hK hT ha0 rfl rfl rfl 2 (by decide) (hts _ kw_50) (fun _ h9 => h9) rfl dX6_readSight_66 (fun v66 hv66 hm66 => ?_)
      refine ti_geti hx hb hts inlX7 hown hK hT hv66 rfl rfl rfl 1 (by decide) (hts _ kw_307) (fun _ h9 => h9) rfl dX6_readSight_69 (fun v69 hv69 hm69 => ?_)
      refine lv_iconst (v := 1) hx hb dX6_readSight_72 (by decide) ?_
      refine lv_isub hx hb dX6_readSight_73 ?_
      refine lv_topi (fun v73 e73 => ?_)
      have hv73 : iv v73 (-1) 7 := by rw [e73]; exact iv_w (iv_sub hv69 (iv_c (x := (1 : Int32)) (k := 1) (by decide)) (by decide)) (by decide)
      have s73 : v73.toInt = v69.toInt - (1 : Int32).toInt := by rw [e73]; exact iv_subE hv69 (iv_c (x := (1 : Int32)) (k := 1) (by decide)) (by decide)
      refine ti_calli (va_runV (As := [.int (0 : Int32), .int v73]) (rest := []) ⟨hx, hb, hml, hown, hts⟩ (t_X6_takeNumber l hT ha0 (iv_w (iv_c (x := (0 : Int32)) (k := 0) (by decide)) (by decide)) (iv_w hv73 (by decide)) hM63_a0_10 (iv_w hj63_Ma0_10 (by decide))) (cwV 2 hts (good_V kw_282 kw_283 kw_284 kw_15 kw_285) rfl rfl rfl (by decide +kernel) ⟨by rw [hR]; decide, by rw [hR]; decide⟩) (ti_preV hK hT ha0 rfl rfl) rfl rfl hl.1 rfl (lv_room (Nat.le_of_ble_eq_true rfl)) dX6_readSight_74 ⟨Nat.zero_le _, Nat.zero_le _⟩) hS (pW_sub rfl) (fun v74 H locs hB hS _ hk74 => ?_)
      obtain ⟨hT, hv74, ⟨w74_0, hw74_0, hwi74_0, hwp74_0⟩⟩ := hB
      refine lv_istore_n (lv' := [(2, .int v74), (0, .ref a0), (1, .int v38)]) hx hb dX6_readSight_77 rfl hl (by decide) rfl (fun ls hl => ?_)
      refine lv_aload_n hx hb dX6_readSight_78 rfl (lv_at hl 1 rfl) ?_
      refine va_ldcS (q := adK 24) hx hb hown (hSO.2.2.2 (RX6, 225, "within", 24) (by decide +kernel)) dX6_readSight_79 ?_
      refine lv_iconst (v := 1) hx hb dX6_readSight_81 (by decide) ?_
      refine lv_bipush (v := 30) hx hb dX6_readSight_82 (by decide) ?_
      refine ti_calli (va_runV (As := [.ref (adK 24), .int (1 : Int32), .int (30 : Int32)]) (rest := []) ⟨hx, hb, hml, hown, hts⟩ (t_X6_takeNamed l hT ha0 (by decide) (iv_w (iv_c (x := (1 : Int32)) (k := 1) (by decide)) (by decide)) (iv_w (iv_c (x := (30 : Int32)) (k := 30) (by decide)) (by decide)) hw74_0 (iv_w hwi74_0 (by decide))) (cwV 3 hts (good_V kw_278 kw_279 kw_280 kw_15 kw_281) rfl rfl rfl (by decide +kernel) ⟨by rw [hR]; decide, by rw [hR]; decide⟩) (ts_preV hK hSO hS hT ha0 rfl rfl) rfl rfl hl.1 rfl (lv_room (Nat.le_of_ble_eq_true rfl)) dX6_readSight_84 ⟨Nat.zero_le _, Nat.zero_le _⟩) hS (pW_sub rfl) (fun v84 H locs hB hS _ hk84 => ?_)
      obtain ⟨hT, hv84, ⟨w84_0, hw84_0, hwi84_0, hwp84_0⟩⟩ := hB
      have kl30 : (30 : Int32).toInt = 30 := by decide
      refine lv_istore_n (lv' := [(3, .int v84), (2, .int v74), (0, .ref a0), (1, .int v38)]) hx hb dX6_readSight_87 rfl hl (by decide) rfl (fun ls hl => ?_)
      refine lv_aload_n hx hb dX6_readSight_88 rfl (lv_at hl 2 rfl) ?_
      refine ti_getE (ci := 6) (v := .int w84_0) hx hb hts inlX6 hown hK hw84_0 rfl (by decide) (hts _ kw_198) (fun _ h9 => h9) dX6_readSight_89 ?_
      refine lv_if_ne (tgt := 110) hx hb dX6_readSight_92 (by decide) (fun c92 => ?_) (fun c92 => ?_)
      · skip
        have f92 := i_ne c92
        exact ret _ _ _ _ dX6_readSight_110 (hT) hS
      · skip
        have f92 := i_eq c92
        have hw84_0_92l : iv w84_0 0 0 := iv_eql hwi84_0 (iv_c (x := (0 : Int32)) (k := 0) (by decide)) c92 (by decide)
        refine lv_aload_n hx hb dX6_readSight_95 rfl (lv_at hl 2 rfl) ?_
        refine ti_getr hx hb hts inlX6 hown hK hT ha0 rfl rfl rfl 2 (by decide) (hts _ kw_50) (fun _ h9 => h9) rfl dX6_readSight_96 (fun v96 hv96 hm96 => ?_)
        refine ti_getr hx hb hts inlX7 hown hK hT hv96 rfl rfl rfl 9 (by decide) (hts _ kw_332) (fun _ h9 => h9) rfl dX6_readSight_99 (fun v99 hv99 hm99 => ?_)
        have hh102_15 : iv v38 0 7 := by have b0a := (hv1_6l).1; have b0b := (hv1_6l).2; have b1a := (hv21).1; have b1b := (hv21).2; have b2a := (hv33).1; have b2b := (hv33).2; have b3a := (hv37).1; have b3b := (hv37).2; have b4a := (hg38_10).1; have b4b := (hg38_10).2; have b5a := (hwi38_0).1; have b5b := (hwi38_0).2; have b6a := (hv38).1; have b6b := (hv38).2; have b7a := (hv43).1; have b7b := (hv43).2; have b8a := (hj63_Ma0_10).1; have b8b := (hj63_Ma0_10).2; have b9a := (hv69).1; have b9b := (hv69).2; have b10a := (hv73).1; have b10b := (hv73).2; have b11a := (hwi74_0).1; have b11b := (hwi74_0).2; have b12a := (hv74).1; have b12b := (hv74).2; have b13a := (hw84_0_92l).1; have b13b := (hw84_0_92l).2; have b14a := (hv84).1; have b14b := (hv84).2; exact ⟨by omega, by omega⟩
        have hh102_16 : iv v74 0 7 := by have b0a := (hv1_6l).1; have b0b := (hv1_6l).2; have b1a := (hv21).1; have b1b := (hv21).2; have b2a := (hv33).1; have b2b := (hv33).2; have b3a := (hv37).1; have b3b := (hv37).2; have b4a := (hg38_10).1; have b4b := (hg38_10).2; have b5a := (hwi38_0).1; have b5b := (hwi38_0).2; have b6a := (hh102_15).1; have b6b := (hh102_15).2; have b7a := (hv43).1; have b7b := (hv43).2; have b8a := (hj63_Ma0_10).1; have b8b := (hj63_Ma0_10).2; have b9a := (hv69).1; have b9b := (hv69).2; have b10a := (hv73).1; have b10b := (hv73).2; have b11a := (hwi74_0).1; have b11b := (hwi74_0).2; have b12a := (hv74).1; have b12b := (hv74).2; have b13a := (hw84_0_92l).1; have b13b := (hw84_0_92l).2; have b14a := (hv84).1; have b14b := (hv84).2; exact ⟨by omega, by omega⟩
        refine lv_iload_n hx hb dX6_readSight_102 rfl (lv_at hl 3 rfl) ?_
        refine lv_bipush (v := 8) hx hb dX6_readSight_103 (by decide) ?_
        refine lv_imul hx hb dX6_readSight_105 ?_
        refine lv_topi (fun v105 e105 => ?_)
        have hv105 : iv v105 0 56 := by rw [e105]; exact iv_mul hh102_15 (iv_c (x := (8 : Int32)) (k := 8) (by decide)) (by decide)
        have kl8 : (8 : Int32).toInt = 8 := by decide
        have s105 : v105.toInt = v38.toInt * (8 : Int32).toInt := by rw [e105]; exact iv_mulE hh102_15 (iv_c (x := (8 : Int32)) (k := 8) (by decide)) (by decide)
        have s105 : v105.toInt = 8 * v38.toInt := by rw [s105]; simp only [show (8 : Int32).toInt = 8 from by decide]; try omega
        refine lv_iload_n hx hb dX6_readSight_106 rfl (lv_at hl 1 rfl) ?_
        refine lv_iadd hx hb dX6_readSight_107 ?_
        refine lv_topi (fun v107 e107 => ?_)
        have hv107 : iv v107 0 63 := by rw [e107]; exact iv_w (iv_add hv105 hh102_16 (by decide)) (by decide)
        have s107 : v107.toInt = v105.toInt + v74.toInt := by rw [e107]; exact iv_addE hv105 hh102_16 (by decide)
        refine lv_iload_n hx hb dX6_readSight_108 rfl (lv_at hl 0 rfl) ?_
        refine ti_iast hx hb (aT0 hK) hT hS hv99 rfl rfl hv107 (by decide) (fun _ _ _ => ⟨_, _, rfl, by decide, by decide⟩) hv84 (fun _ _ => trivial) dX6_readSight_109 (fun H locs hT hS oq109 he109 hk109 => ?_)
        exact ret _ _ _ _ dX6_readSight_110 (hT) hS
    refine lv_icmp_ne (tgt := 63) hx hb dX6_readSight_47 (by decide) (fun c47 => ?_) (fun c47 => ?_)
    · skip
      have kl2 : (2 : Int32).toInt = 2 := by decide
      have f47 := i_ne c47
      exact J63 w38_0 _ _ _  (iv_w hwi38_0 (by decide)) hw38_0 (by have b0a := (hv1_6l).1; have b0b := (hv1_6l).2; have b1a := (hv21).1; have b1b := (hv21).2; have b2a := (hv33).1; have b2b := (hv33).2; have b3a := (hv37).1; have b3b := (hv37).2; have b4a := (hg38_10).1; have b4b := (hg38_10).2; have b5a := (hwi38_0).1; have b5b := (hwi38_0).2; have b6a := (hv38).1; have b6b := (hv38).2; have b7a := (hv43).1; have b7b := (hv43).2; omega) hT hS (lv_sub hl [1, 0] rfl)
    · skip
      have kl2 : (2 : Int32).toInt = 2 := by decide
      have f47 := i_eq c47
      have hv43_47l : iv v43 2 2 := iv_eql hv43 (iv_c (x := (2 : Int32)) (k := 2) (by decide)) c47 (by decide)
      refine lv_aload_n hx hb dX6_readSight_50 rfl (lv_at hl 1 rfl) ?_
      refine ti_geti hx hb hts inlX6 hown hK hT ha0 rfl rfl rfl 6 (by decide) (hts _ kw_208) (fun _ h9 => h9) rfl dX6_readSight_51 (fun v51 hv51 hm51 => ?_)
      refine lv_iload_n hx hb dX6_readSight_54 rfl (lv_at hl 0 rfl) ?_
      refine lv_icmp_ne (tgt := 63) hx hb dX6_readSight_55 (by decide) (fun c55 => ?_) (fun c55 => ?_)
      · skip
        have f55 := i_ne c55
        exact J63 w38_0 _ _ _  (iv_w hwi38_0 (by decide)) hw38_0 (by have b0a := (hv1_6l).1; have b0b := (hv1_6l).2; have b1a := (hv21).1; have b1b := (hv21).2; have b2a := (hv33).1; have b2b := (hv33).2; have b3a := (hv37).1; have b3b := (hv37).2; have b4a := (hg38_10).1; have b4b := (hg38_10).2; have b5a := (hwi38_0).1; have b5b := (hwi38_0).2; have b6a := (hv38).1; have b6b := (hv38).2; have b7a := (hv43_47l).1; have b7b := (hv43_47l).2; have b8a := (hv51).1; have b8b := (hv51).2; omega) hT hS (lv_sub hl [1, 0] rfl)
      · skip
        have f55 := i_eq c55
        refine lv_aload_n hx hb dX6_readSight_58 rfl (lv_at hl 1 rfl) ?_
        refine lv_iconst (v := 2) hx hb dX6_readSight_59 (by decide) ?_
        refine ti_callv (va_runV (As := [.int (2 : Int32)]) (rest := []) ⟨hx, hb, hml, hown, hts⟩ (t_X6_fail l hT ha0 (iv_w (iv_c (x := (2 : Int32)) (k := 2) (by decide)) (by decide))) (cwV 1 hts (good_V kw_274 kw_275 kw_276 kw_15 kw_277) rfl rfl rfl (by decide +kernel) ⟨by rw [hR]; decide, by rw [hR]; decide⟩) (ti_preV hK hT ha0 rfl rfl) rfl rfl hl.1 rfl (lv_room (Nat.le_of_ble_eq_true rfl)) dX6_readSight_60 ⟨Nat.zero_le _, Nat.zero_le _⟩) hS (pW_sub rfl) (fun H locs hB hS _ hk60 => ?_)
        obtain ⟨hT, ⟨w60_0, hw60_0, hwi60_0, hwp60_0⟩⟩ := hB
        exact J63 w60_0 _ _ _  (iv_w hwi60_0 (by decide)) hw60_0 (by have b0a := (hv1_6l).1; have b0b := (hv1_6l).2; have b1a := (hv21).1; have b1b := (hv21).2; have b2a := (hv33).1; have b2b := (hv33).2; have b3a := (hv37).1; have b3b := (hv37).2; have b4a := (hg38_10).1; have b4b := (hg38_10).2; have b5a := (hwi38_0).1; have b5b := (hwi38_0).2; have b6a := (hv38).1; have b6b := (hv38).2; have b7a := (hv43_47l).1; have b7b := (hv43_47l).2; have b8a := (hv51).1; have b8b := (hv51).2; have b9a := (hwi60_0).1; have b9b := (hwi60_0).2; omega) hT hS (lv_sub hl [1, 0] rfl)
  · skip
    have kl12 : (12 : Int32).toInt = 12 := by decide
    have f6 := i_nlt c6
    have hv1_6r : iv v1 12 2147483647 := iv_ler (iv_c (x := (12 : Int32)) (k := 12) (by decide)) hv1 (Int32.not_lt.mp c6) (by decide)
    refine lv_aload_n hx hb dX6_readSight_9 rfl (lv_at hl 0 rfl) ?_
    refine lv_iconst (v := 3) hx hb dX6_readSight_10 (by decide) ?_
    refine ti_callv (va_runV (As := [.int (3 : Int32)]) (rest := []) ⟨hx, hb, hml, hown, hts⟩ (t_X6_fail l hT ha0 (iv_w (iv_c (x := (3 : Int32)) (k := 3) (by decide)) (by decide))) (cwV 1 hts (good_V kw_274 kw_275 kw_276 kw_15 kw_277) rfl rfl rfl (by decide +kernel) ⟨by rw [hR]; decide, by rw [hR]; decide⟩) (ti_preV hK hT ha0 rfl rfl) rfl rfl hl.1 rfl (lv_room (Nat.le_of_ble_eq_true rfl)) dX6_readSight_11 ⟨Nat.zero_le _, Nat.zero_le _⟩) hS (pW_sub rfl) (fun H locs hB hS _ hk11 => ?_)
    obtain ⟨hT, ⟨w11_0, hw11_0, hwi11_0, hwp11_0⟩⟩ := hB
    exact ret _ _ _ _ dX6_readSight_14 (hT) hS
set_option maxHeartbeats 4000000 in
set_option maxRecDepth 100000 in
theorem t_X6_read (l : Launch) {D : va_G} {c0 : Nat → ClassId} {Y : Nat → Option Nat} {ν : Nat → Nat} {adK adV : Nat → Nat} {H : Heap} (hT : TI D vwCl (tysOf c0) (RTg ν) Y H) {a0 : Nat} (ha0 : Y a0 = some 6) : Met l yX6_read (wz yX6_read cX6_read 2 (some .boolean)) { frames := 9, cells := 0, slots := 0, locals := 193 } (TPs D (tysOf c0) Y adK adV H [.ref a0]) (TQi (fun x H' => TI D vwCl (tysOf c0) (RTg ν) Y H' ∧ iv x 0 1) Y [0, 1, 3, 6, 7, 22]) 0 0 (pW Y [0, 1, 3, 6, 7, 22]) := by
  refine Met.ofW (cc := cX6_read) (maxL := 2) (ret := (some .boolean)) (by decide) rfl ?_
  intro p e s m args below meth c s₁ B hml hv
  obtain ⟨rfl, rfl, hK, hSO⟩ := hv
  have hx := B.exec
  have hb := B.bytes
  have hr := B.returns
  have hts : ∀ w ∈ wq, w.before _ s = true := fun w h => atoms_spec (ws := wz yX6_read cX6_read 2 (some .boolean)) B.pre w (List.mem_cons_of_mem _ h)
  have hown : s.vm.findClass RX6 = some m.cls := findClass_of_methodNamed B.named
  have hlocks := B.notSynchronized
  obtain ⟨R, hR⟩ : ∃ R : Room, R = ({ frames := 9, cells := 0, slots := 0, locals := 193 } : Room) := ⟨_, rfl⟩
  rw [show (headSpec (wz yX6_read cX6_read 2 (some .boolean)) { frames := 9, cells := 0, slots := 0, locals := 193 }).room = R from hR.symm]
  refine ti_mz hx hb hr hlocks (fun Q ret => ?_)
  have hl := lv_entry [.ref a0] (n := 2) (Nat.le_of_ble_eq_true rfl)
  rw [lg_entry_eq]
  generalize (lg_sl [.ref a0] ++ List.replicate (2 - (lg_sl [.ref a0]).length) Slot.unset).toArray = ls at hl ⊢
  have hl : lv_has ls 2 [(0, .ref a0)] := hl
  refine ti_gen (P := fun H => TI D vwCl (tysOf c0) (RTg ν) Y H) (Y := Y) (ws := [0, 1, 3, 6, 7, 22]) hT (fun H locs hT hS => ?_)
  refine lv_aload_n hx hb dX6_read_0 rfl (lv_at hl 0 rfl) ?_
  refine ti_getr hx hb hts inlX6 hown hK hT ha0 rfl rfl rfl 2 (by decide) (hts _ kw_50) (fun _ h9 => h9) rfl dX6_read_1 (fun v1 hv1 hm1 => ?_)
  refine ti_callv (va_runV (As := []) (rest := []) ⟨hx, hb, hml, hown, hts⟩ (t_X7_clear l hT hv1) (cwV 0 hts (good_V kw_202 kw_82 kw_83 kw_19 kw_84) rfl rfl rfl (by decide +kernel) ⟨by rw [hR]; decide, by rw [hR]; decide⟩) (ti_preV hK hT hv1 rfl rfl) rfl rfl hl.1 rfl (lv_room (Nat.le_of_ble_eq_true rfl)) dX6_read_4 ⟨Nat.zero_le _, Nat.zero_le _⟩) hS (pW_sub rfl) (fun H locs hB hS _ hk4 => ?_)
  have hT := hB
  refine lv_aload_n hx hb dX6_read_7 rfl (lv_at hl 0 rfl) ?_
  refine lv_iconst (v := 0) hx hb dX6_read_8 (by decide) ?_
  refine ti_put (ty := .int) hx hb hts inlX6 tyX6 tyX6_ok nmX6 hown hK hT hS ha0 rfl rfl rfl rfl 5 (by decide) (hts _ kw_194) (fun _ h9 => h9) rfl rfl (by decide +kernel) rfl rfl ⟨(0 : Int32), rfl, iv_w (iv_c (x := (0 : Int32)) (k := 0) (by decide)) (by decide)⟩ (fun _ _ => trivial) dX6_read_9 (fun H locs hT hS oq9 he9 hk9 => ?_)
  refine lv_aload_n hx hb dX6_read_12 rfl (lv_at hl 0 rfl) ?_
  refine lv_iconst (v := 0) hx hb dX6_read_13 (by decide) ?_
  refine ti_put (ty := .boolean) hx hb hts inlX6 tyX6 tyX6_ok nmX6 hown hK hT hS ha0 rfl rfl rfl rfl 7 (by decide) (hts _ kw_195) (fun _ h9 => h9) rfl rfl (by decide +kernel) (ti_nz (iv_w (iv_c (x := (0 : Int32)) (k := 0) (by decide)) (by decide))).1 (ti_nz (iv_w (iv_c (x := (0 : Int32)) (k := 0) (by decide)) (by decide))).2 ⟨(0 : Int32), rfl, iv_w (iv_c (x := (0 : Int32)) (k := 0) (by decide)) (by decide)⟩ (fun _ _ => trivial) dX6_read_14 (fun H locs hT hS oq14 he14 hk14 => ?_)
  refine lv_aload_n hx hb dX6_read_17 rfl (lv_at hl 0 rfl) ?_
  refine lv_iconst (v := 0) hx hb dX6_read_18 (by decide) ?_
  refine ti_put (ty := .boolean) hx hb hts inlX6 tyX6 tyX6_ok nmX6 hown hK hT hS ha0 rfl rfl rfl rfl 8 (by decide) (hts _ kw_196) (fun _ h9 => h9) rfl rfl (by decide +kernel) (ti_nz (iv_w (iv_c (x := (0 : Int32)) (k := 0) (by decide)) (by decide))).1 (ti_nz (iv_w (iv_c (x := (0 : Int32)) (k := 0) (by decide)) (by decide))).2 ⟨(0 : Int32), rfl, iv_w (iv_c (x := (0 : Int32)) (k := 0) (by decide)) (by decide)⟩ (fun _ _ => trivial) dX6_read_19 (fun H locs hT hS oq19 he19 hk19 => ?_)
  refine lv_aload_n hx hb dX6_read_22 rfl (lv_at hl 0 rfl) ?_
  refine lv_iconst (v := 0) hx hb dX6_read_23 (by decide) ?_
  refine ti_put (ty := .int) hx hb hts inlX6 tyX6 tyX6_ok nmX6 hown hK hT hS ha0 rfl rfl rfl rfl 9 (by decide) (hts _ kw_197) (fun _ h9 => h9) rfl rfl (by decide +kernel) rfl rfl ⟨(0 : Int32), rfl, iv_w (iv_c (x := (0 : Int32)) (k := 0) (by decide)) (by decide)⟩ (fun _ _ => trivial) dX6_read_24 (fun H locs hT hS oq24 he24 hk24 => ?_)
  refine lv_aload_n hx hb dX6_read_27 rfl (lv_at hl 0 rfl) ?_
  refine lv_iconst (v := 0) hx hb dX6_read_28 (by decide) ?_
  refine ti_put (ty := .int) hx hb hts inlX6 tyX6 tyX6_ok nmX6 hown hK hT hS ha0 rfl rfl rfl rfl 10 (by decide) (hts _ kw_198) (fun _ h9 => h9) rfl rfl (by decide +kernel) rfl rfl ⟨(0 : Int32), rfl, iv_w (iv_c (x := (0 : Int32)) (k := 0) (by decide)) (by decide)⟩ (fun _ _ => trivial) dX6_read_29 (fun H locs hT hS oq29 he29 hk29 => ?_)
  refine lv_aload_n hx hb dX6_read_32 rfl (lv_at hl 0 rfl) ?_
  refine lv_iconst (v := (-1)) hx hb dX6_read_33 (by decide) ?_
  refine ti_put (ty := .int) hx hb hts inlX6 tyX6 tyX6_ok nmX6 hown hK hT hS ha0 rfl rfl rfl rfl 11 (by decide) (hts _ kw_51) (fun _ h9 => h9) rfl rfl (by decide +kernel) rfl rfl ⟨(-1 : Int32), rfl, iv_w (iv_c (x := (-1 : Int32)) (k := (-1)) (by decide)) (by decide)⟩ (fun _ _ => trivial) dX6_read_34 (fun H locs hT hS oq34 he34 hk34 => ?_)
  refine lv_aload_n hx hb dX6_read_37 rfl (lv_at hl 0 rfl) ?_
  refine ti_callv (va_runV (As := []) (rest := []) ⟨hx, hb, hml, hown, hts⟩ (t_X6_advance l hT ha0 (hk34 _ _ (by decide) he29) (iv_w (iv_c (x := (0 : Int32)) (k := 0) (by decide)) (by decide))) (cwV 0 hts (good_V kw_203 kw_204 kw_205 kw_15 kw_206) rfl rfl rfl (by decide +kernel) ⟨by rw [hR]; decide, by rw [hR]; decide⟩) (ti_preV hK hT ha0 rfl rfl) rfl rfl hl.1 rfl (lv_room (Nat.le_of_ble_eq_true rfl)) dX6_read_38 ⟨Nat.zero_le _, Nat.zero_le _⟩) hS (pW_sub rfl) (fun H locs hB hS _ hk38 => ?_)
  obtain ⟨hT, ⟨w38_0, hw38_0, hwi38_0, hwp38_0⟩⟩ := hB
  refine lv_iconst (v := 0) hx hb dX6_read_41 (by decide) ?_
  have J43 : ∀ (n : Nat) (j43_L1 : Int32) (H : Heap) (locs : List Loc) (ls : Array Slot), (1600 - j43_L1.toInt).toNat < n → iv j43_L1 0 1600 → TI D vwCl (tysOf c0) (RTg ν) Y H → va_S (pW Y [0, 1, 3, 6, 7, 22]) s.heap H locs → lv_has ls 2 [(0, .ref a0), (1, .int j43_L1)] → W p l e R s m ([.ref a0] : List Value).toArray below meth c H locs 0 0 Q (F0 m 43 ls []) := by
    intro n
    induction n with
    | zero => intro j43_L1 H locs ls hms; exact absurd hms (Nat.not_lt_zero _)
    | succ n ih43 =>
      intro j43_L1 H locs ls hms43 hj43_L1 hT hS hl
      refine lv_iload_n hx hb dX6_read_43 rfl (lv_at hl 1 rfl) ?_
      refine lv_aload_n hx hb dX6_read_44 rfl (lv_at hl 0 rfl) ?_
      refine ti_geti hx hb hts inlX6 hown hK hT ha0 rfl rfl rfl 1 (by decide) (hts _ kw_167) (fun _ h9 => h9) rfl dX6_read_45 (fun v45 hv45 hm45 => ?_)
      have J179 : ∀  (H : Heap) (locs : List Loc) (ls : Array Slot), TI D vwCl (tysOf c0) (RTg ν) Y H → va_S (pW Y [0, 1, 3, 6, 7, 22]) s.heap H locs → lv_has ls 2 [(0, .ref a0), (1, .int j43_L1)] → W p l e R s m ([.ref a0] : List Value).toArray below meth c H locs 0 0 Q (F0 m 179 ls []) := by
        intro  H locs ls  hT hS hl
        refine lv_aload_n hx hb dX6_read_179 rfl (lv_at hl 0 rfl) ?_
        refine ti_geti hx hb hts inlX6 hown hK hT ha0 rfl rfl rfl 10 (by decide) (hts _ kw_198) (fun _ h9 => h9) rfl dX6_read_180 (fun v180 hv180 hm180 => ?_)
        refine lv_if_ne (tgt := 190) hx hb dX6_read_183 (by decide) (fun c183 => ?_) (fun c183 => ?_)
        · skip
          have kl0 : (0 : Int32).toInt = 0 := by decide
          have f183 := i_ne c183
          refine lv_iconst (v := 0) hx hb dX6_read_190 (by decide) ?_
          exact ret _ _ _ _ _ dX6_read_191 (iv_w (iv_c (x := (0 : Int32)) (k := 0) (by decide)) (by decide)) (⟨hT, iv_w (iv_c (x := (0 : Int32)) (k := 0) (by decide)) (by decide)⟩) hS
        · skip
          have kl0 : (0 : Int32).toInt = 0 := by decide
          have f183 := i_eq c183
          have hv180_183l : iv v180 0 0 := iv_eql hv180 (iv_c (x := (0 : Int32)) (k := 0) (by decide)) c183 (by decide)
          refine lv_iconst (v := 1) hx hb dX6_read_186 (by decide) ?_
          refine lv_goto (tgt := 191) hx hb dX6_read_187 (by decide) ?_
          exact ret _ _ _ _ _ dX6_read_191 (iv_w (iv_c (x := (1 : Int32)) (k := 1) (by decide)) (by decide)) (⟨hT, iv_w (iv_c (x := (1 : Int32)) (k := 1) (by decide)) (by decide)⟩) hS
      refine lv_icmp_ge (tgt := 179) hx hb dX6_read_48 (by decide) (fun c48 => ?_) (fun c48 => ?_)
      · skip
        have f48 := i_le c48
        exact J179  _ _ _   hT hS (lv_sub hl [0, 1] rfl)
      · skip
        have f48 := i_nle c48
        have hj43_L1_48l : iv j43_L1 0 1599 := iv_ltl hj43_L1 hv45 (Int32.not_le.mp c48) (by decide)
        have hv45_48r : iv v45 1 1600 := iv_ltr hj43_L1_48l hv45 (Int32.not_le.mp c48) (by decide)
        refine lv_aload_n hx hb dX6_read_51 rfl (lv_at hl 0 rfl) ?_
        refine ti_geti hx hb hts inlX6 hown hK hT ha0 rfl rfl rfl 3 (by decide) (hts _ kw_199) (fun _ h9 => h9) rfl dX6_read_52 (fun v52 hv52 hm52 => ?_)
        refine lv_if_eq (tgt := 179) hx hb dX6_read_55 (by decide) (fun c55 => ?_) (fun c55 => ?_)
        · skip
          have kl0 : (0 : Int32).toInt = 0 := by decide
          have f55 := i_eq c55
          have hv52_55l : iv v52 0 0 := iv_eql hv52 (iv_c (x := (0 : Int32)) (k := 0) (by decide)) c55 (by decide)
          exact J179  _ _ _   hT hS (lv_sub hl [0, 1] rfl)
        · skip
          have kl0 : (0 : Int32).toInt = 0 := by decide
          have f55 := i_ne c55
          refine lv_aload_n hx hb dX6_read_58 rfl (lv_at hl 0 rfl) ?_
          refine ti_geti hx hb hts inlX6 hown hK hT ha0 rfl rfl rfl 10 (by decide) (hts _ kw_198) (fun _ h9 => h9) rfl dX6_read_59 (fun v59 hv59 hm59 => ?_)
          refine lv_if_ne (tgt := 179) hx hb dX6_read_62 (by decide) (fun c62 => ?_) (fun c62 => ?_)
          · skip
            have f62 := i_ne c62
            exact J179  _ _ _   hT hS (lv_sub hl [0, 1] rfl)
          · skip
            have f62 := i_eq c62
            have hv59_62l : iv v59 0 0 := iv_eql hv59 (iv_c (x := (0 : Int32)) (k := 0) (by decide)) c62 (by decide)
            refine lv_aload_n hx hb dX6_read_65 rfl (lv_at hl 0 rfl) ?_
            refine ti_getr hx hb hts inlX6 hown hK hT ha0 rfl rfl rfl 2 (by decide) (hts _ kw_50) (fun _ h9 => h9) rfl dX6_read_66 (fun v66 hv66 hm66 => ?_)
            refine ti_geti hx hb hts inlX7 hown hK hT hv66 rfl rfl rfl 2 (by decide) (hts _ kw_200) (fun _ h9 => h9) rfl dX6_read_69 (fun v69 hv69 hm69 => ?_)
            have J169 : ∀  (H : Heap) (locs : List Loc) (ls : Array Slot), TI D vwCl (tysOf c0) (RTg ν) Y H → va_S (pW Y [0, 1, 3, 6, 7, 22]) s.heap H locs → lv_has ls 2 [(0, .ref a0), (1, .int j43_L1)] → W p l e R s m ([.ref a0] : List Value).toArray below meth c H locs 0 0 Q (F0 m 169 ls []) := by
              intro  H locs ls  hT hS hl
              refine lv_aload_n hx hb dX6_read_169 rfl (lv_at hl 0 rfl) ?_
              refine ti_callv (va_runV (As := []) (rest := []) ⟨hx, hb, hml, hown, hts⟩ (t_X6_readSign l hT ha0) (cwV 0 hts (good_V kw_338 kw_339 kw_340 kw_15 kw_341) rfl rfl rfl (by decide +kernel) ⟨by rw [hR]; decide, by rw [hR]; decide⟩) (ti_preV hK hT ha0 rfl rfl) rfl rfl hl.1 rfl (lv_room (Nat.le_of_ble_eq_true rfl)) dX6_read_170 ⟨Nat.zero_le _, Nat.zero_le _⟩) hS (pW_sub rfl) (fun H locs hB hS _ hk170 => ?_)
              have hT := hB
              obtain ⟨v173, e173⟩ : ∃ y : Int32, y = j43_L1 + 1 := ⟨_, rfl⟩
              have hv173 : iv v173 1 1600 := by rw [e173]; exact iv_w (iv_add hj43_L1_48l (iv_c (x := (1 : Int32)) (k := 1) (by decide)) (by decide)) (by decide)
              have s173 : v173.toInt = j43_L1.toInt + 1 := by rw [e173, iv_addE hj43_L1_48l (iv_c (x := (1 : Int32)) (k := 1) (by decide)) (by decide)]; rfl
              refine lv_iinc (v := v173) (lv' := [(1, .int v173), (0, .ref a0)]) hx hb dX6_read_173 hl (k := 1) rfl (by rw [e173]; rfl) (by decide) rfl (fun ls hl => ?_)
              refine lv_goto (tgt := 43) hx hb dX6_read_176 (by decide) ?_
              exact ih43 v173 _ _ _ (ms_up hms43 (by have := s173; omega) (iv_w (c := 1) (d := 1600) hv173 (by decide)).2) (iv_w hv173 (by decide)) hT hS (lv_sub hl [1, 0] rfl)
            refine lv_if_ne (tgt := 100) hx hb dX6_read_72 (by decide) (fun c72 => ?_) (fun c72 => ?_)
            · skip
              have f72 := i_ne c72
              refine lv_aload_n hx hb dX6_read_100 rfl (lv_at hl 0 rfl) ?_
              refine va_ldcS (q := adK 2) hx hb hown (hSO.2.2.2 (RX6, 71, "law", 2) (by decide +kernel)) dX6_read_101 ?_
              refine ti_calli (va_runV (As := [.ref (adK 2)]) (rest := []) ⟨hx, hb, hml, hown, hts⟩ (t_X6_isAt l hT ha0 (by decide)) (cwV 1 hts (good_V kw_221 kw_222 kw_223 kw_15 kw_224) rfl rfl rfl (by decide +kernel) ⟨by rw [hR]; decide, by rw [hR]; decide⟩) (ts_preV hK hSO hS hT ha0 rfl rfl) rfl rfl hl.1 rfl (lv_room (Nat.le_of_ble_eq_true rfl)) dX6_read_103 ⟨Nat.zero_le _, Nat.zero_le _⟩) hS (pW_sub rfl) (fun v103 H1 locs hB hS _ hk103 => ?_)
              obtain ⟨hH, hv103⟩ := hB
              rw [hH] at hS ⊢
              refine lv_if_eq (tgt := 116) hx hb dX6_read_106 (by decide) (fun c106 => ?_) (fun c106 => ?_)
              · skip
                have f106 := i_eq c106
                have hv103_106l : iv v103 0 0 := iv_eql hv103 (iv_c (x := (0 : Int32)) (k := 0) (by decide)) c106 (by decide)
                refine lv_aload_n hx hb dX6_read_116 rfl (lv_at hl 0 rfl) ?_
                refine va_ldcS (q := adK 10) hx hb hown (hSO.2.2.2 (RX6, 80, "person", 10) (by decide +kernel)) dX6_read_117 ?_
                refine ti_calli (va_runV (As := [.ref (adK 10)]) (rest := []) ⟨hx, hb, hml, hown, hts⟩ (t_X6_isAt l hT ha0 (by decide)) (cwV 1 hts (good_V kw_221 kw_222 kw_223 kw_15 kw_224) rfl rfl rfl (by decide +kernel) ⟨by rw [hR]; decide, by rw [hR]; decide⟩) (ts_preV hK hSO hS hT ha0 rfl rfl) rfl rfl hl.1 rfl (lv_room (Nat.le_of_ble_eq_true rfl)) dX6_read_119 ⟨Nat.zero_le _, Nat.zero_le _⟩) hS (pW_sub rfl) (fun v119 H1 locs hB hS _ hk119 => ?_)
                obtain ⟨hH, hv119⟩ := hB
                rw [hH] at hS ⊢
                refine lv_if_eq (tgt := 132) hx hb dX6_read_122 (by decide) (fun c122 => ?_) (fun c122 => ?_)
                · skip
                  have f122 := i_eq c122
                  have hv119_122l : iv v119 0 0 := iv_eql hv119 (iv_c (x := (0 : Int32)) (k := 0) (by decide)) c122 (by decide)
                  refine lv_aload_n hx hb dX6_read_132 rfl (lv_at hl 0 rfl) ?_
                  refine va_ldcS (q := adK 23) hx hb hown (hSO.2.2.2 (RX6, 85, "sees", 23) (by decide +kernel)) dX6_read_133 ?_
                  refine ti_calli (va_runV (As := [.ref (adK 23)]) (rest := []) ⟨hx, hb, hml, hown, hts⟩ (t_X6_isAt l hT ha0 (by decide)) (cwV 1 hts (good_V kw_221 kw_222 kw_223 kw_15 kw_224) rfl rfl rfl (by decide +kernel) ⟨by rw [hR]; decide, by rw [hR]; decide⟩) (ts_preV hK hSO hS hT ha0 rfl rfl) rfl rfl hl.1 rfl (lv_room (Nat.le_of_ble_eq_true rfl)) dX6_read_135 ⟨Nat.zero_le _, Nat.zero_le _⟩) hS (pW_sub rfl) (fun v135 H1 locs hB hS _ hk135 => ?_)
                  obtain ⟨hH, hv135⟩ := hB
                  rw [hH] at hS ⊢
                  refine lv_if_eq (tgt := 148) hx hb dX6_read_138 (by decide) (fun c138 => ?_) (fun c138 => ?_)
                  · skip
                    have f138 := i_eq c138
                    have hv135_138l : iv v135 0 0 := iv_eql hv135 (iv_c (x := (0 : Int32)) (k := 0) (by decide)) c138 (by decide)
                    refine lv_aload_n hx hb dX6_read_148 rfl (lv_at hl 0 rfl) ?_
                    refine va_ldcS (q := adK 25) hx hb hown (hSO.2.2.2 (RX6, 90, "found", 25) (by decide +kernel)) dX6_read_149 ?_
                    refine ti_calli (va_runV (As := [.ref (adK 25)]) (rest := []) ⟨hx, hb, hml, hown, hts⟩ (t_X6_isAt l hT ha0 (by decide)) (cwV 1 hts (good_V kw_221 kw_222 kw_223 kw_15 kw_224) rfl rfl rfl (by decide +kernel) ⟨by rw [hR]; decide, by rw [hR]; decide⟩) (ts_preV hK hSO hS hT ha0 rfl rfl) rfl rfl hl.1 rfl (lv_room (Nat.le_of_ble_eq_true rfl)) dX6_read_151 ⟨Nat.zero_le _, Nat.zero_le _⟩) hS (pW_sub rfl) (fun v151 H1 locs hB hS _ hk151 => ?_)
                    obtain ⟨hH, hv151⟩ := hB
                    rw [hH] at hS ⊢
                    refine lv_if_eq (tgt := 164) hx hb dX6_read_154 (by decide) (fun c154 => ?_) (fun c154 => ?_)
                    · skip
                      have f154 := i_eq c154
                      have hv151_154l : iv v151 0 0 := iv_eql hv151 (iv_c (x := (0 : Int32)) (k := 0) (by decide)) c154 (by decide)
                      refine lv_aload_n hx hb dX6_read_164 rfl (lv_at hl 0 rfl) ?_
                      refine lv_iconst (v := 1) hx hb dX6_read_165 (by decide) ?_
                      refine ti_callv (va_runV (As := [.int (1 : Int32)]) (rest := []) ⟨hx, hb, hml, hown, hts⟩ (t_X6_fail l hT ha0 (iv_w (iv_c (x := (1 : Int32)) (k := 1) (by decide)) (by decide))) (cwV 1 hts (good_V kw_274 kw_275 kw_276 kw_15 kw_277) rfl rfl rfl (by decide +kernel) ⟨by rw [hR]; decide, by rw [hR]; decide⟩) (ti_preV hK hT ha0 rfl rfl) rfl rfl hl.1 rfl (lv_room (Nat.le_of_ble_eq_true rfl)) dX6_read_166 ⟨Nat.zero_le _, Nat.zero_le _⟩) hS (pW_sub rfl) (fun H locs hB hS _ hk166 => ?_)
                      obtain ⟨hT, ⟨w166_0, hw166_0, hwi166_0, hwp166_0⟩⟩ := hB
                      exact J169  _ _ _   hT hS (lv_sub hl [0, 1] rfl)
                    · skip
                      have f154 := i_ne c154
                      have hv151_154l : iv v151 1 1 := iv_nel hv151 (iv_c (x := (0 : Int32)) (k := 0) (by decide)) c154 (by decide)
                      refine lv_aload_n hx hb dX6_read_157 rfl (lv_at hl 0 rfl) ?_
                      refine ti_callv (va_runV (As := []) (rest := []) ⟨hx, hb, hml, hown, hts⟩ (t_X6_readFound l hT ha0) (cwV 0 hts (good_V kw_333 kw_334 kw_335 kw_15 kw_336) rfl rfl rfl (by decide +kernel) ⟨by rw [hR]; decide, by rw [hR]; decide⟩) (ts_preV hK hSO hS hT ha0 rfl rfl) rfl rfl hl.1 rfl (lv_room (Nat.le_of_ble_eq_true rfl)) dX6_read_158 ⟨Nat.zero_le _, Nat.zero_le _⟩) hS (pW_sub rfl) (fun H locs hB hS _ hk158 => ?_)
                      have hT := hB
                      refine lv_goto (tgt := 169) hx hb dX6_read_161 (by decide) ?_
                      exact J169  _ _ _   hT hS (lv_sub hl [0, 1] rfl)
                  · skip
                    have f138 := i_ne c138
                    have hv135_138l : iv v135 1 1 := iv_nel hv135 (iv_c (x := (0 : Int32)) (k := 0) (by decide)) c138 (by decide)
                    refine lv_aload_n hx hb dX6_read_141 rfl (lv_at hl 0 rfl) ?_
                    refine ti_callv (va_runV (As := []) (rest := []) ⟨hx, hb, hml, hown, hts⟩ (t_X6_readSight l hT ha0) (cwV 0 hts (good_V kw_328 kw_329 kw_330 kw_15 kw_331) rfl rfl rfl (by decide +kernel) ⟨by rw [hR]; decide, by rw [hR]; decide⟩) (ts_preV hK hSO hS hT ha0 rfl rfl) rfl rfl hl.1 rfl (lv_room (Nat.le_of_ble_eq_true rfl)) dX6_read_142 ⟨Nat.zero_le _, Nat.zero_le _⟩) hS (pW_sub rfl) (fun H locs hB hS _ hk142 => ?_)
                    have hT := hB
                    refine lv_goto (tgt := 169) hx hb dX6_read_145 (by decide) ?_
                    exact J169  _ _ _   hT hS (lv_sub hl [0, 1] rfl)
                · skip
                  have f122 := i_ne c122
                  have hv119_122l : iv v119 1 1 := iv_nel hv119 (iv_c (x := (0 : Int32)) (k := 0) (by decide)) c122 (by decide)
                  refine lv_aload_n hx hb dX6_read_125 rfl (lv_at hl 0 rfl) ?_
                  refine ti_callv (va_runV (As := []) (rest := []) ⟨hx, hb, hml, hown, hts⟩ (t_X6_readPerson l hT ha0) (cwV 0 hts (good_V kw_303 kw_304 kw_305 kw_15 kw_306) rfl rfl rfl (by decide +kernel) ⟨by rw [hR]; decide, by rw [hR]; decide⟩) (ts_preV hK hSO hS hT ha0 rfl rfl) rfl rfl hl.1 rfl (lv_room (Nat.le_of_ble_eq_true rfl)) dX6_read_126 ⟨Nat.zero_le _, Nat.zero_le _⟩) hS (pW_sub rfl) (fun H locs hB hS _ hk126 => ?_)
                  have hT := hB
                  refine lv_goto (tgt := 169) hx hb dX6_read_129 (by decide) ?_
                  exact J169  _ _ _   hT hS (lv_sub hl [0, 1] rfl)
              · skip
                have f106 := i_ne c106
                have hv103_106l : iv v103 1 1 := iv_nel hv103 (iv_c (x := (0 : Int32)) (k := 0) (by decide)) c106 (by decide)
                refine lv_aload_n hx hb dX6_read_109 rfl (lv_at hl 0 rfl) ?_
                refine ti_callv (va_runV (As := []) (rest := []) ⟨hx, hb, hml, hown, hts⟩ (t_X6_readLaw l hT ha0) (cwV 0 hts (good_V kw_286 kw_287 kw_288 kw_15 kw_289) rfl rfl rfl (by decide +kernel) ⟨by rw [hR]; decide, by rw [hR]; decide⟩) (ts_preV hK hSO hS hT ha0 rfl rfl) rfl rfl hl.1 rfl (lv_room (Nat.le_of_ble_eq_true rfl)) dX6_read_110 ⟨Nat.zero_le _, Nat.zero_le _⟩) hS (pW_sub rfl) (fun H locs hB hS _ hk110 => ?_)
                have hT := hB
                refine lv_goto (tgt := 169) hx hb dX6_read_113 (by decide) ?_
                exact J169  _ _ _   hT hS (lv_sub hl [0, 1] rfl)
            · skip
              have f72 := i_eq c72
              have hv69_72l : iv v69 0 0 := iv_eql hv69 (iv_c (x := (0 : Int32)) (k := 0) (by decide)) c72 (by decide)
              refine lv_aload_n hx hb dX6_read_75 rfl (lv_at hl 0 rfl) ?_
              refine va_ldcS (q := adK 0) hx hb hown (hSO.2.2.2 (RX6, 57, "town", 0) (by decide +kernel)) dX6_read_76 ?_
              refine ti_callv (va_runV (As := [.ref (adK 0)]) (rest := []) ⟨hx, hb, hml, hown, hts⟩ (t_X6_take l hT ha0 (by decide) hm59 (iv_w hv59_62l (by decide))) (cwV 1 hts (good_V kw_217 kw_218 kw_219 kw_15 kw_220) rfl rfl rfl (by decide +kernel) ⟨by rw [hR]; decide, by rw [hR]; decide⟩) (ts_preV hK hSO hS hT ha0 rfl rfl) rfl rfl hl.1 rfl (lv_room (Nat.le_of_ble_eq_true rfl)) dX6_read_78 ⟨Nat.zero_le _, Nat.zero_le _⟩) hS (pW_sub rfl) (fun H locs hB hS _ hk78 => ?_)
              obtain ⟨hT, ⟨w78_0, hw78_0, hwi78_0, hwp78_0⟩⟩ := hB
              refine lv_aload_n hx hb dX6_read_81 rfl (lv_at hl 0 rfl) ?_
              refine ti_getr hx hb hts inlX6 hown hK hT ha0 rfl rfl rfl 2 (by decide) (hts _ kw_50) (fun _ h9 => h9) rfl dX6_read_82 (fun v82 hv82 hm82 => ?_)
              refine lv_aload_n hx hb dX6_read_85 rfl (lv_at hl 0 rfl) ?_
              refine va_ldcS (q := adK 1) hx hb hown (hSO.2.2.2 (RX6, 63, "steps", 1) (by decide +kernel)) dX6_read_86 ?_
              refine lv_iconst (v := 5) hx hb dX6_read_88 (by decide) ?_
              refine lv_bipush (v := 30) hx hb dX6_read_89 (by decide) ?_
              refine ti_calli (va_runV (As := [.ref (adK 1), .int (5 : Int32), .int (30 : Int32)]) (rest := [.ref v82]) ⟨hx, hb, hml, hown, hts⟩ (t_X6_takeNamed l hT ha0 (by decide) (iv_w (iv_c (x := (5 : Int32)) (k := 5) (by decide)) (by decide)) (iv_w (iv_c (x := (30 : Int32)) (k := 30) (by decide)) (by decide)) hw78_0 (iv_w hwi78_0 (by decide))) (cwV 3 hts (good_V kw_278 kw_279 kw_280 kw_15 kw_281) rfl rfl rfl (by decide +kernel) ⟨by rw [hR]; decide, by rw [hR]; decide⟩) (ts_preV hK hSO hS hT ha0 rfl rfl) rfl rfl hl.1 rfl (lv_room (Nat.le_of_ble_eq_true rfl)) dX6_read_91 ⟨Nat.zero_le _, Nat.zero_le _⟩) hS (pW_sub rfl) (fun v91 H locs hB hS _ hk91 => ?_)
              obtain ⟨hT, hv91, ⟨w91_0, hw91_0, hwi91_0, hwp91_0⟩⟩ := hB
              have kl5 : (5 : Int32).toInt = 5 := by decide
              have kl30 : (30 : Int32).toInt = 30 := by decide
              refine ti_put (ty := .int) hx hb hts inlX7 tyX7 tyX7_ok nmX7 hown hK hT hS hv82 rfl rfl rfl rfl 0 (by decide) (hts _ kw_201) (fun _ h9 => h9) rfl rfl (by decide +kernel) rfl rfl ⟨v91, rfl, iv_w hv91 (by decide)⟩ (fun _ _ => trivial) dX6_read_94 (fun H locs hT hS oq94 he94 hk94 => ?_)
              refine lv_goto (tgt := 169) hx hb dX6_read_97 (by decide) ?_
              exact J169  _ _ _   hT hS (lv_sub hl [0, 1] rfl)
  refine lv_istore_n (lv' := [(1, .int (0 : Int32)), (0, .ref a0)]) hx hb dX6_read_42 rfl hl (by decide) rfl (fun ls hl => ?_)
  exact J43 _ (0 : Int32) _ _ _ (Nat.lt_succ_self _) (iv_w (iv_c (x := (0 : Int32)) (k := 0) (by decide)) (by decide)) hT hS (lv_sub hl [1, 0] rfl)
set_option maxHeartbeats 4000000 in
set_option maxRecDepth 100000 in
theorem t_X9_town (l : Launch) {D : va_G} {c0 : Nat → ClassId} {Y : Nat → Option Nat} {ν : Nat → Nat} {adK adV : Nat → Nat} {H : Heap} (hT : TI D vwCl (tysOf c0) (RTg ν) Y H) {a0 : Nat} (ha0 : Y a0 = some 9) : Met l yX9_town (wz yX9_town cX9_town 1 (some .int)) { frames := 10, cells := 0, slots := 0, locals := 214 } (TPs D (tysOf c0) Y adK adV H [.ref a0]) (TQi (fun x H' => TI D vwCl (tysOf c0) (RTg ν) Y H') Y [0, 1, 3, 6, 7, 20, 22, 28]) 0 0 (pW Y [0, 1, 3, 6, 7, 20, 22, 28]) := by
  refine Met.ofW (cc := cX9_town) (maxL := 1) (ret := (some .int)) (by decide) rfl ?_
  intro p e s m args below meth c s₁ B hml hv
  obtain ⟨rfl, rfl, hK, hSO⟩ := hv
  have hx := B.exec
  have hb := B.bytes
  have hr := B.returns
  have hts : ∀ w ∈ wq, w.before _ s = true := fun w h => atoms_spec (ws := wz yX9_town cX9_town 1 (some .int)) B.pre w (List.mem_cons_of_mem _ h)
  have hown : s.vm.findClass RX9 = some m.cls := findClass_of_methodNamed B.named
  have hlocks := B.notSynchronized
  obtain ⟨R, hR⟩ : ∃ R : Room, R = ({ frames := 10, cells := 0, slots := 0, locals := 214 } : Room) := ⟨_, rfl⟩
  rw [show (headSpec (wz yX9_town cX9_town 1 (some .int)) { frames := 10, cells := 0, slots := 0, locals := 214 }).room = R from hR.symm]
  refine ti_mi hx hb hr hlocks (fun Q ret => ?_)
  have hl := lv_entry [.ref a0] (n := 1) (Nat.le_of_ble_eq_true rfl)
  rw [lg_entry_eq]
  generalize (lg_sl [.ref a0] ++ List.replicate (1 - (lg_sl [.ref a0]).length) Slot.unset).toArray = ls at hl ⊢
  have hl : lv_has ls 1 [(0, .ref a0)] := hl
  refine ti_gen (P := fun H => TI D vwCl (tysOf c0) (RTg ν) Y H) (Y := Y) (ws := [0, 1, 3, 6, 7, 20, 22, 28]) hT (fun H locs hT hS => ?_)
  refine lv_aload_n hx hb dX9_town_0 rfl (lv_at hl 0 rfl) ?_
  refine ti_getr hx hb hts inlX9 hown hK hT ha0 rfl rfl rfl 0 (by decide) (hts _ kw_16) (fun _ h9 => h9) rfl dX9_town_1 (fun v1 hv1 hm1 => ?_)
  refine ti_calli (va_runV (As := []) (rest := []) ⟨hx, hb, hml, hown, hts⟩ (t_X6_read l hT hv1) (cwV 0 hts (good_V kw_190 kw_191 kw_192 kw_15 kw_193) rfl rfl rfl (by decide +kernel) ⟨by rw [hR]; decide, by rw [hR]; decide⟩) (ts_preV hK hSO hS hT hv1 rfl rfl) rfl rfl hl.1 rfl (lv_room (Nat.le_of_ble_eq_true rfl)) dX9_town_4 ⟨Nat.zero_le _, Nat.zero_le _⟩) hS (pW_sub rfl) (fun v4 H locs hB hS _ hk4 => ?_)
  obtain ⟨hT, hv4⟩ := hB
  refine lv_if_ne (tgt := 13) hx hb dX9_town_7 (by decide) (fun c7 => ?_) (fun c7 => ?_)
  · skip
    have kl0 : (0 : Int32).toInt = 0 := by decide
    have f7 := i_ne c7
    have hv4_7l : iv v4 1 1 := iv_nel hv4 (iv_c (x := (0 : Int32)) (k := 0) (by decide)) c7 (by decide)
    refine lv_aload_n hx hb dX9_town_13 rfl (lv_at hl 0 rfl) ?_
    refine ti_getr hx hb hts inlX9 hown hK hT ha0 rfl rfl rfl 1 (by decide) (hts _ kw_20) (fun _ h9 => h9) rfl dX9_town_14 (fun v14 hv14 hm14 => ?_)
    refine lv_aload_n hx hb dX9_town_17 rfl (lv_at hl 0 rfl) ?_
    refine ti_getE (ci := 9) (v := .ref v1) hx hb hts inlX9 hown hK (hm1.call hk4 (pW_not ha0 rfl)) rfl (by decide) (hts _ kw_16) (fun _ h9 => h9) dX9_town_18 ?_
    refine ti_getr hx hb hts inlX6 hown hK hT hv1 rfl rfl rfl 2 (by decide) (hts _ kw_188) (fun _ h9 => h9) rfl dX9_town_21 (fun v21 hv21 hm21 => ?_)
    refine ti_callv (va_runV (As := [.ref v21]) (rest := []) ⟨hx, hb, hml, hown, hts⟩ (t_X7_copyFrom l hT hv14 hv21) (cwV 1 hts (good_V kw_342 kw_343 kw_344 kw_19 kw_345) rfl rfl rfl (by decide +kernel) ⟨by rw [hR]; decide, by rw [hR]; decide⟩) (ti_preV hK hT hv14 rfl rfl) rfl rfl hl.1 rfl (lv_room (Nat.le_of_ble_eq_true rfl)) dX9_town_24 ⟨Nat.zero_le _, Nat.zero_le _⟩) hS (pW_sub rfl) (fun H locs hB hS _ hk24 => ?_)
    have hT := hB
    refine lv_aload_n hx hb dX9_town_27 rfl (lv_at hl 0 rfl) ?_
    refine ti_getE (ci := 9) (v := .ref v1) hx hb hts inlX9 hown hK ((hm1.call hk4 (pW_not ha0 rfl)).call hk24 (pW_not ha0 rfl)) rfl (by decide) (hts _ kw_16) (fun _ h9 => h9) dX9_town_28 ?_
    refine lv_iconst (v := 0) hx hb dX9_town_31 (by decide) ?_
    refine ti_put (ty := .int) hx hb hts inlX6 tyX6 tyX6_ok nmX6 hown hK hT hS hv1 rfl rfl rfl rfl 1 (by decide) (hts _ kw_162) (fun _ h9 => h9) rfl rfl (by decide +kernel) rfl rfl ⟨(0 : Int32), rfl, iv_w (iv_c (x := (0 : Int32)) (k := 0) (by decide)) (by decide)⟩ (fun _ _ => trivial) dX9_town_32 (fun H locs hT hS oq32 he32 hk32 => ?_)
    refine lv_aload_n hx hb dX9_town_35 rfl (lv_at hl 0 rfl) ?_
    refine ti_getE (ci := 9) (v := .ref v14) hx hb hts inlX9 hown hK ((hm14.call hk24 (pW_not ha0 rfl)).kept (oq32 _ (ne_r ha0 hv1 rfl))) rfl (by decide) (hts _ kw_20) (fun _ h9 => h9) dX9_town_36 ?_
    refine ti_geti hx hb hts inlX7 hown hK hT hv14 rfl rfl rfl 2 (by decide) (hts _ kw_189) (fun _ h9 => h9) rfl dX9_town_39 (fun v39 hv39 hm39 => ?_)
    exact ret _ _ _ _ _ dX9_town_42 (hT) hS
  · skip
    have kl0 : (0 : Int32).toInt = 0 := by decide
    have f7 := i_eq c7
    have hv4_7l : iv v4 0 0 := iv_eql hv4 (iv_c (x := (0 : Int32)) (k := 0) (by decide)) c7 (by decide)
    refine lv_bipush (v := (-4)) hx hb dX9_town_10 (by decide) ?_
    exact ret _ _ _ _ _ dX9_town_12 (hT) hS
