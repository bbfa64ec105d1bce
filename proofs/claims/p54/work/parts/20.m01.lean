set_option maxHeartbeats 4000000 in
set_option maxRecDepth 100000 in
theorem t_X5_begin (l : Launch) {D : va_G} {c0 : Nat → ClassId} {Y : Nat → Option Nat} {ν : Nat → Nat} {H : Heap} (hT : TI D vwCl (tysOf c0) (RTg ν) Y H) {a0 : Nat} (ha0 : Y a0 = some 5) {x1 : Int32} (hx1 : iv x1 0 3) {x2 : Int32} (hx2 : iv x2 0 60) : Met l yX5_begin (wz yX5_begin cX5_begin 4 none) { frames := 0, cells := 0, slots := 0, locals := 0 } (TP D vwCl (tysOf c0) H [.ref a0, .int x1, .int x2]) (TQv (fun H' => TI D vwCl (tysOf c0) (RTg ν) Y H') Y [5, 27]) 0 0 (pW Y [5, 27]) := by
  refine Met.ofW (cc := cX5_begin) (maxL := 4) (ret := none) (by decide) rfl ?_
  intro p e s m args below meth c s₁ B hml hv
  obtain ⟨rfl, rfl, hK⟩ := hv
  have hx := B.exec
  have hb := B.bytes
  have hr := B.returns
  have hts : ∀ w ∈ wq, w.before _ s = true := fun w h => atoms_spec (ws := wz yX5_begin cX5_begin 4 none) B.pre w (List.mem_cons_of_mem _ h)
  have hown : s.vm.findClass RX5 = some m.cls := findClass_of_methodNamed B.named
  have hlocks := B.notSynchronized
  obtain ⟨R, hR⟩ : ∃ R : Room, R = ({ frames := 0, cells := 0, slots := 0, locals := 0 } : Room) := ⟨_, rfl⟩
  rw [show (headSpec (wz yX5_begin cX5_begin 4 none) { frames := 0, cells := 0, slots := 0, locals := 0 }).room = R from hR.symm]
  refine ti_mv hx hb hr hlocks (fun Q ret => ?_)
  have hl := lv_entry [.ref a0, .int x1, .int x2] (n := 4) (Nat.le_of_ble_eq_true rfl)
  rw [lg_entry_eq]
  generalize (lg_sl [.ref a0, .int x1, .int x2] ++ List.replicate (4 - (lg_sl [.ref a0, .int x1, .int x2]).length) Slot.unset).toArray = ls at hl ⊢
  have hl : lv_has ls 4 [(0, .ref a0), (1, .int x1), (2, .int x2)] := hl
  refine ti_gen (P := fun H => TI D vwCl (tysOf c0) (RTg ν) Y H) (Y := Y) (ws := [5, 27]) hT (fun H locs hT hS => ?_)
  refine lv_aload_n hx hb dX5_begin_0 rfl (lv_at hl 0 rfl) ?_
  refine lv_iconst (v := 1) hx hb dX5_begin_1 (by decide) ?_
  refine ti_put (ty := .boolean) hx hb hts inlX5 tyX5 tyX5_ok nmX5 hown hK hT hS ha0 rfl rfl rfl rfl 0 (by decide) (hts _ kw_1540) (fun _ h9 => h9) rfl rfl (by decide +kernel) (ti_nz (iv_w (iv_c (x := (1 : Int32)) (k := 1) (by decide)) (by decide))).1 (ti_nz (iv_w (iv_c (x := (1 : Int32)) (k := 1) (by decide)) (by decide))).2 ⟨(1 : Int32), rfl, iv_w (iv_c (x := (1 : Int32)) (k := 1) (by decide)) (by decide)⟩ (fun _ _ => trivial) dX5_begin_2 (fun H locs hT hS oq2 he2 hk2 => ?_)
  refine lv_aload_n hx hb dX5_begin_5 rfl (lv_at hl 0 rfl) ?_
  refine lv_iload_n hx hb dX5_begin_6 rfl (lv_at hl 1 rfl) ?_
  refine ti_put (ty := .int) hx hb hts inlX5 tyX5 tyX5_ok nmX5 hown hK hT hS ha0 rfl rfl rfl rfl 1 (by decide) (hts _ kw_1541) (fun _ h9 => h9) rfl rfl (by decide +kernel) rfl rfl ⟨x1, rfl, iv_w hx1 (by decide)⟩ (fun _ _ => trivial) dX5_begin_7 (fun H locs hT hS oq7 he7 hk7 => ?_)
  refine lv_aload_n hx hb dX5_begin_10 rfl (lv_at hl 0 rfl) ?_
  refine lv_iload_n hx hb dX5_begin_11 rfl (lv_at hl 2 rfl) ?_
  refine ti_put (ty := .int) hx hb hts inlX5 tyX5 tyX5_ok nmX5 hown hK hT hS ha0 rfl rfl rfl rfl 2 (by decide) (hts _ kw_1542) (fun _ h9 => h9) rfl rfl (by decide +kernel) rfl rfl ⟨x2, rfl, iv_w hx2 (by decide)⟩ (fun _ _ => trivial) dX5_begin_12 (fun H locs hT hS oq12 he12 hk12 => ?_)
  refine lv_iconst (v := 0) hx hb dX5_begin_15 (by decide) ?_
  have J17 : ∀ (n : Nat) (j17_L3 : Int32) (H : Heap) (locs : List Loc) (ls : Array Slot), (60 - j17_L3.toInt).toNat < n → iv j17_L3 0 60 → TI D vwCl (tysOf c0) (RTg ν) Y H → va_S (pW Y [5, 27]) s.heap H locs → lv_has ls 4 [(0, .ref a0), (1, .int x1), (2, .int x2), (3, .int j17_L3)] → W p l e R s m ([.ref a0, .int x1, .int x2] : List Value).toArray below meth c H locs 0 0 Q (F0 m 17 ls []) := by
    intro n
    induction n with
    | zero => intro j17_L3 H locs ls hms; exact absurd hms (Nat.not_lt_zero _)
    | succ n ih17 =>
      intro j17_L3 H locs ls hms17 hj17_L3 hT hS hl
      refine lv_iload_n hx hb dX5_begin_17 rfl (lv_at hl 3 rfl) ?_
      refine lv_bipush (v := 60) hx hb dX5_begin_18 (by decide) ?_
      refine lv_icmp_ge (tgt := 36) hx hb dX5_begin_20 (by decide) (fun c20 => ?_) (fun c20 => ?_)
      · skip
        have kl60 : (60 : Int32).toInt = 60 := by decide
        have f20 := i_le c20
        have hj17_L3_20r : iv j17_L3 60 60 := iv_ler (iv_c (x := (60 : Int32)) (k := 60) (by decide)) hj17_L3 c20 (by decide)
        exact ret _ _ _ _ dX5_begin_36 (hT) hS
      · skip
        have kl60 : (60 : Int32).toInt = 60 := by decide
        have f20 := i_nle c20
        have hj17_L3_20l : iv j17_L3 0 59 := iv_ltl hj17_L3 (iv_c (x := (60 : Int32)) (k := 60) (by decide)) (Int32.not_le.mp c20) (by decide)
        refine lv_aload_n hx hb dX5_begin_23 rfl (lv_at hl 0 rfl) ?_
        refine ti_getr hx hb hts inlX5 hown hK hT ha0 rfl rfl rfl 3 (by decide) (hts _ kw_125) (fun _ h9 => h9) rfl dX5_begin_24 (fun v24 hv24 hm24 => ?_)
        refine lv_iload_n hx hb dX5_begin_27 rfl (lv_at hl 3 rfl) ?_
        refine lv_lconst (v := 0) hx hb dX5_begin_28 (by decide) ?_
        have kj0 : (0 : Int64).toInt = 0 := by decide
        refine ti_last hx hb (aT3 hK) hT hS hv24 rfl rfl hj17_L3_20l (by decide) (fun _ _ _ => rfl)  (fun _ _ => trivial) dX5_begin_29 (fun H locs hT hS oq29 he29 hk29 => ?_)
        obtain ⟨v30, e30⟩ : ∃ y : Int32, y = j17_L3 + 1 := ⟨_, rfl⟩
        have hv30 : iv v30 1 60 := by rw [e30]; exact iv_w (iv_add hj17_L3_20l (iv_c (x := (1 : Int32)) (k := 1) (by decide)) (by decide)) (by decide)
        have s30 : v30.toInt = j17_L3.toInt + 1 := by rw [e30, iv_addE hj17_L3_20l (iv_c (x := (1 : Int32)) (k := 1) (by decide)) (by decide)]; rfl
        refine lv_iinc (v := v30) (lv' := [(3, .int v30), (0, .ref a0), (1, .int x1), (2, .int x2)]) hx hb dX5_begin_30 hl (k := 3) rfl (by rw [e30]; rfl) (by decide) rfl (fun ls hl => ?_)
        refine lv_goto (tgt := 17) hx hb dX5_begin_33 (by decide) ?_
        exact ih17 v30 _ _ _ (ms_up hms17 (by have := s30; omega) (iv_w (c := 1) (d := 60) hv30 (by decide)).2) (iv_w hv30 (by decide)) hT hS (lv_sub hl [1, 2, 3, 0] rfl)
  refine lv_istore_n (lv' := [(3, .int (0 : Int32)), (0, .ref a0), (1, .int x1), (2, .int x2)]) hx hb dX5_begin_16 rfl hl (by decide) rfl (fun ls hl => ?_)
  exact J17 _ (0 : Int32) _ _ _ (Nat.lt_succ_self _) (iv_w (iv_c (x := (0 : Int32)) (k := 0) (by decide)) (by decide)) hT hS (lv_sub hl [1, 2, 3, 0] rfl)
set_option maxHeartbeats 4000000 in
set_option maxRecDepth 100000 in
theorem t_X5_put (l : Launch) {D : va_G} {c0 : Nat → ClassId} {Y : Nat → Option Nat} {ν : Nat → Nat} {H : Heap} (hT : TI D vwCl (tysOf c0) (RTg ν) Y H) {a0 : Nat} (ha0 : Y a0 = some 5) {x1 : Int32} (hx1 : iv x1 0 59) {x2 : Int64} (hx2 : jv x2 (-9223372036854775808) 9223372036854775807) : Met l yX5_put (wz yX5_put cX5_put 4 none) { frames := 0, cells := 0, slots := 0, locals := 0 } (TP D vwCl (tysOf c0) H [.ref a0, .int x1, .long x2]) (TQv (fun H' => TI D vwCl (tysOf c0) (RTg ν) Y H') Y [27]) 0 0 (pW Y [27]) := by
  refine Met.ofW (cc := cX5_put) (maxL := 4) (ret := none) (by decide) rfl ?_
  intro p e s m args below meth c s₁ B hml hv
  obtain ⟨rfl, rfl, hK⟩ := hv
  have hx := B.exec
  have hb := B.bytes
  have hr := B.returns
  have hts : ∀ w ∈ wq, w.before _ s = true := fun w h => atoms_spec (ws := wz yX5_put cX5_put 4 none) B.pre w (List.mem_cons_of_mem _ h)
  have hown : s.vm.findClass RX5 = some m.cls := findClass_of_methodNamed B.named
  have hlocks := B.notSynchronized
  obtain ⟨R, hR⟩ : ∃ R : Room, R = ({ frames := 0, cells := 0, slots := 0, locals := 0 } : Room) := ⟨_, rfl⟩
  rw [show (headSpec (wz yX5_put cX5_put 4 none) { frames := 0, cells := 0, slots := 0, locals := 0 }).room = R from hR.symm]
  refine ti_mv hx hb hr hlocks (fun Q ret => ?_)
  have hl := lv_entry [.ref a0, .int x1, .long x2] (n := 4) (Nat.le_of_ble_eq_true rfl)
  rw [lg_entry_eq]
  generalize (lg_sl [.ref a0, .int x1, .long x2] ++ List.replicate (4 - (lg_sl [.ref a0, .int x1, .long x2]).length) Slot.unset).toArray = ls at hl ⊢
  have hl : lv_has ls 4 [(0, .ref a0), (1, .int x1), (2, .long x2)] := hl
  refine ti_gen (P := fun H => TI D vwCl (tysOf c0) (RTg ν) Y H) (Y := Y) (ws := [27]) hT (fun H locs hT hS => ?_)
  refine lv_aload_n hx hb dX5_put_0 rfl (lv_at hl 0 rfl) ?_
  refine ti_geti hx hb hts inlX5 hown hK hT ha0 rfl rfl rfl 1 (by decide) (hts _ kw_1541) (fun _ h9 => h9) rfl dX5_put_1 (fun v1 hv1 hm1 => ?_)
  by_cases c4_0 : v1.toInt = 0
  · skip
    refine lv_tableIn (off := 28) (tgt := 32) hx hb dX5_put_4 (by omega) (by omega) (by rw [c4_0]; rfl) (by decide) ?_
    have hv1_4 : iv v1 0 0 := iv_c c4_0
    refine lv_aload_n hx hb dX5_put_32 rfl (lv_at hl 0 rfl) ?_
    refine ti_getr hx hb hts inlX5 hown hK hT ha0 rfl rfl rfl 3 (by decide) (hts _ kw_125) (fun _ h9 => h9) rfl dX5_put_33 (fun v33 hv33 hm33 => ?_)
    refine lv_iload_n hx hb dX5_put_36 rfl (lv_at hl 1 rfl) ?_
    refine lv_lload_n hx hb dX5_put_37 rfl (lv_at hl 2 rfl) ?_
    refine lv_l2i hx hb dX5_put_38 rfl ?_
    refine lv_topi (fun v38 e38 => ?_)
    have hv38 : iv v38 (-2147483648) 2147483647 := iv_top _
    refine lv_i2b hx hb dX5_put_39 rfl ?_
    refine lv_topi (fun v39 e39 => ?_)
    have hv39 : iv v39 (-128) 127 := by rw [e39]; exact iv_byte _
    refine lv_i2l hx hb dX5_put_40 rfl ?_
    refine lv_topl (fun v40 e40 => ?_)
    have hv40 : jv v40 (-128) 127 := by rw [e40]; exact jv_i hv39
    have t40 : v40.toInt = v39.toInt := by rw [e40]; exact jv_e _
    refine ti_last hx hb (aT3 hK) hT hS hv33 rfl rfl hx1 (by decide) (fun _ _ _ => rfl)  (fun _ _ => trivial) dX5_put_41 (fun H locs hT hS oq41 he41 hk41 => ?_)
    refine lv_goto (tgt := 77) hx hb dX5_put_42 (by decide) ?_
    exact ret _ _ _ _ dX5_put_77 (hT) hS
  by_cases c4_1 : v1.toInt = 1
  · skip
    refine lv_tableIn (off := 41) (tgt := 45) hx hb dX5_put_4 (by omega) (by omega) (by rw [c4_1]; rfl) (by decide) ?_
    have hv1_4 : iv v1 1 1 := iv_c c4_1
    refine lv_aload_n hx hb dX5_put_45 rfl (lv_at hl 0 rfl) ?_
    refine ti_getr hx hb hts inlX5 hown hK hT ha0 rfl rfl rfl 3 (by decide) (hts _ kw_125) (fun _ h9 => h9) rfl dX5_put_46 (fun v46 hv46 hm46 => ?_)
    refine lv_iload_n hx hb dX5_put_49 rfl (lv_at hl 1 rfl) ?_
    refine lv_lload_n hx hb dX5_put_50 rfl (lv_at hl 2 rfl) ?_
    refine lv_l2i hx hb dX5_put_51 rfl ?_
    refine lv_topi (fun v51 e51 => ?_)
    have hv51 : iv v51 (-2147483648) 2147483647 := iv_top _
    refine lv_i2s hx hb dX5_put_52 rfl ?_
    refine lv_topi (fun v52 e52 => ?_)
    have hv52 : iv v52 (-2147483648) 2147483647 := iv_top _
    refine lv_i2l hx hb dX5_put_53 rfl ?_
    refine lv_topl (fun v53 e53 => ?_)
    have hv53 : jv v53 (-2147483648) 2147483647 := by rw [e53]; exact jv_i hv52
    have t53 : v53.toInt = v52.toInt := by rw [e53]; exact jv_e _
    refine ti_last hx hb (aT3 hK) hT hS hv46 rfl rfl hx1 (by decide) (fun _ _ _ => rfl)  (fun _ _ => trivial) dX5_put_54 (fun H locs hT hS oq54 he54 hk54 => ?_)
    refine lv_goto (tgt := 77) hx hb dX5_put_55 (by decide) ?_
    exact ret _ _ _ _ dX5_put_77 (hT) hS
  by_cases c4_2 : v1.toInt = 2
  · skip
    refine lv_tableIn (off := 54) (tgt := 58) hx hb dX5_put_4 (by omega) (by omega) (by rw [c4_2]; rfl) (by decide) ?_
    have hv1_4 : iv v1 2 2 := iv_c c4_2
    refine lv_aload_n hx hb dX5_put_58 rfl (lv_at hl 0 rfl) ?_
    refine ti_getr hx hb hts inlX5 hown hK hT ha0 rfl rfl rfl 3 (by decide) (hts _ kw_125) (fun _ h9 => h9) rfl dX5_put_59 (fun v59 hv59 hm59 => ?_)
    refine lv_iload_n hx hb dX5_put_62 rfl (lv_at hl 1 rfl) ?_
    refine lv_lload_n hx hb dX5_put_63 rfl (lv_at hl 2 rfl) ?_
    refine lv_l2i hx hb dX5_put_64 rfl ?_
    refine lv_topi (fun v64 e64 => ?_)
    have hv64 : iv v64 (-2147483648) 2147483647 := iv_top _
    refine lv_i2l hx hb dX5_put_65 rfl ?_
    refine lv_topl (fun v65 e65 => ?_)
    have hv65 : jv v65 (-2147483648) 2147483647 := by rw [e65]; exact jv_i hv64
    have t65 : v65.toInt = v64.toInt := by rw [e65]; exact jv_e _
    refine ti_last hx hb (aT3 hK) hT hS hv59 rfl rfl hx1 (by decide) (fun _ _ _ => rfl)  (fun _ _ => trivial) dX5_put_66 (fun H locs hT hS oq66 he66 hk66 => ?_)
    refine lv_goto (tgt := 77) hx hb dX5_put_67 (by decide) ?_
    exact ret _ _ _ _ dX5_put_77 (hT) hS
  refine lv_tableOut (tgt := 70) hx hb dX5_put_4 (by have b0a := (hv1).1; have b0b := (hv1).2; omega) (by decide) ?_
  refine lv_aload_n hx hb dX5_put_70 rfl (lv_at hl 0 rfl) ?_
  refine ti_getr hx hb hts inlX5 hown hK hT ha0 rfl rfl rfl 3 (by decide) (hts _ kw_125) (fun _ h9 => h9) rfl dX5_put_71 (fun v71 hv71 hm71 => ?_)
  refine lv_iload_n hx hb dX5_put_74 rfl (lv_at hl 1 rfl) ?_
  refine lv_lload_n hx hb dX5_put_75 rfl (lv_at hl 2 rfl) ?_
  refine ti_last hx hb (aT3 hK) hT hS hv71 rfl rfl hx1 (by decide) (fun _ _ _ => rfl)  (fun _ _ => trivial) dX5_put_76 (fun H locs hT hS oq76 he76 hk76 => ?_)
  exact ret _ _ _ _ dX5_put_77 (hT) hS
set_option maxHeartbeats 4000000 in
set_option maxRecDepth 100000 in
theorem t_X5_spans (l : Launch) {D : va_G} {c0 : Nat → ClassId} {Y : Nat → Option Nat} {ν : Nat → Nat} {H : Heap} (hT : TI D vwCl (tysOf c0) (RTg ν) Y H) {a0 : Nat} (ha0 : Y a0 = some 5) {x1 : Int32} (hx1 : iv x1 (-2147483648) 2147483647) {x2 : Int32} (hx2 : iv x2 (-2147483648) 2147483647) : Met l yX5_spans (wz yX5_spans cX5_spans 3 (some .boolean)) { frames := 0, cells := 0, slots := 0, locals := 0 } (TP D vwCl (tysOf c0) H [.ref a0, .int x1, .int x2]) (TQi (fun x H' => H' = H ∧ iv x 0 1 ∧ ((x.toInt = 0 ∨ 0 ≤ x1.toInt ∧ 0 ≤ x2.toInt ∧ x1.toInt + x2.toInt ≤ 60))) Y []) 0 0 (pW Y []) := by
  refine Met.ofW (cc := cX5_spans) (maxL := 3) (ret := (some .boolean)) (by decide) rfl ?_
  intro p e s m args below meth c s₁ B hml hv
  obtain ⟨rfl, rfl, hK⟩ := hv
  have hx := B.exec
  have hb := B.bytes
  have hr := B.returns
  have hts : ∀ w ∈ wq, w.before _ s = true := fun w h => atoms_spec (ws := wz yX5_spans cX5_spans 3 (some .boolean)) B.pre w (List.mem_cons_of_mem _ h)
  have hown : s.vm.findClass RX5 = some m.cls := findClass_of_methodNamed B.named
  have hlocks := B.notSynchronized
  obtain ⟨R, hR⟩ : ∃ R : Room, R = ({ frames := 0, cells := 0, slots := 0, locals := 0 } : Room) := ⟨_, rfl⟩
  rw [show (headSpec (wz yX5_spans cX5_spans 3 (some .boolean)) { frames := 0, cells := 0, slots := 0, locals := 0 }).room = R from hR.symm]
  refine ti_mz hx hb hr hlocks (fun Q ret => ?_)
  have hl := lv_entry [.ref a0, .int x1, .int x2] (n := 3) (Nat.le_of_ble_eq_true rfl)
  rw [lg_entry_eq]
  generalize (lg_sl [.ref a0, .int x1, .int x2] ++ List.replicate (3 - (lg_sl [.ref a0, .int x1, .int x2]).length) Slot.unset).toArray = ls at hl ⊢
  have hl : lv_has ls 3 [(0, .ref a0), (1, .int x1), (2, .int x2)] := hl
  have hS : va_S (pW Y []) s.heap s.heap [] := va_S.rf
  refine lv_iload_n hx hb dX5_spans_0 rfl (lv_at hl 1 rfl) ?_
  refine lv_if_lt (tgt := 30) hx hb dX5_spans_1 (by decide) (fun c1 => ?_) (fun c1 => ?_)
  · skip
    have kl0 : (0 : Int32).toInt = 0 := by decide
    have f1 := i_lt c1
    have hx1_1l : iv x1 (-2147483648) (-1) := iv_ltl hx1 (iv_c (x := (0 : Int32)) (k := 0) (by decide)) c1 (by decide)
    refine lv_iconst (v := 0) hx hb dX5_spans_30 (by decide) ?_
    exact ret _ _ _ _ _ dX5_spans_31 (iv_w (iv_c (x := (0 : Int32)) (k := 0) (by decide)) (by decide)) (⟨rfl, iv_w (iv_c (x := (0 : Int32)) (k := 0) (by decide)) (by decide), by have b0a := (hx1_1l).1; have b0b := (hx1_1l).2; have b1a := (hx2).1; have b1b := (hx2).2; omega⟩) hS
  · skip
    have kl0 : (0 : Int32).toInt = 0 := by decide
    have f1 := i_nlt c1
    have hx1_1r : iv x1 0 2147483647 := iv_ler (iv_c (x := (0 : Int32)) (k := 0) (by decide)) hx1 (Int32.not_lt.mp c1) (by decide)
    refine lv_iload_n hx hb dX5_spans_4 rfl (lv_at hl 2 rfl) ?_
    refine lv_if_lt (tgt := 30) hx hb dX5_spans_5 (by decide) (fun c5 => ?_) (fun c5 => ?_)
    · skip
      have f5 := i_lt c5
      have hx2_5l : iv x2 (-2147483648) (-1) := iv_ltl hx2 (iv_c (x := (0 : Int32)) (k := 0) (by decide)) c5 (by decide)
      refine lv_iconst (v := 0) hx hb dX5_spans_30 (by decide) ?_
      exact ret _ _ _ _ _ dX5_spans_31 (iv_w (iv_c (x := (0 : Int32)) (k := 0) (by decide)) (by decide)) (⟨rfl, iv_w (iv_c (x := (0 : Int32)) (k := 0) (by decide)) (by decide), by have b0a := (hx1_1r).1; have b0b := (hx1_1r).2; have b1a := (hx2_5l).1; have b1b := (hx2_5l).2; omega⟩) hS
    · skip
      have f5 := i_nlt c5
      have hx2_5r : iv x2 0 2147483647 := iv_ler (iv_c (x := (0 : Int32)) (k := 0) (by decide)) hx2 (Int32.not_lt.mp c5) (by decide)
      refine lv_iload_n hx hb dX5_spans_8 rfl (lv_at hl 2 rfl) ?_
      refine lv_aload_n hx hb dX5_spans_9 rfl (lv_at hl 0 rfl) ?_
      refine ti_geti hx hb hts inlX5 hown hK hT ha0 rfl rfl rfl 2 (by decide) (hts _ kw_1542) (fun _ h9 => h9) rfl dX5_spans_10 (fun v10 hv10 hm10 => ?_)
      refine lv_icmp_gt (tgt := 30) hx hb dX5_spans_13 (by decide) (fun c13 => ?_) (fun c13 => ?_)
      · skip
        have f13 := i_lt c13
        have hx2_13r : iv x2 1 2147483647 := iv_ltr hv10 hx2_5r c13 (by decide)
        refine lv_iconst (v := 0) hx hb dX5_spans_30 (by decide) ?_
        exact ret _ _ _ _ _ dX5_spans_31 (iv_w (iv_c (x := (0 : Int32)) (k := 0) (by decide)) (by decide)) (⟨rfl, iv_w (iv_c (x := (0 : Int32)) (k := 0) (by decide)) (by decide), by have b0a := (hx1_1r).1; have b0b := (hx1_1r).2; have b1a := (hx2_13r).1; have b1b := (hx2_13r).2; have b2a := (hv10).1; have b2b := (hv10).2; omega⟩) hS
      · skip
        have f13 := i_nlt c13
        have hx2_13l : iv x2 0 60 := iv_lel hx2_5r hv10 (Int32.not_lt.mp c13) (by decide)
        refine lv_iload_n hx hb dX5_spans_16 rfl (lv_at hl 1 rfl) ?_
        refine lv_aload_n hx hb dX5_spans_17 rfl (lv_at hl 0 rfl) ?_
        refine ti_getE (ci := 5) (v := .int v10) hx hb hts inlX5 hown hK hm10 rfl (by decide) (hts _ kw_1542) (fun _ h9 => h9) dX5_spans_18 ?_
        refine lv_iload_n hx hb dX5_spans_21 rfl (lv_at hl 2 rfl) ?_
        refine lv_isub hx hb dX5_spans_22 ?_
        refine lv_topi (fun v22 e22 => ?_)
        have hv22 : iv v22 (-60) 60 := by rw [e22]; exact iv_w (iv_sub hv10 hx2_13l (by decide)) (by decide)
        have s22 : v22.toInt = v10.toInt - x2.toInt := by rw [e22]; exact iv_subE hv10 hx2_13l (by decide)
        refine lv_icmp_gt (tgt := 30) hx hb dX5_spans_23 (by decide) (fun c23 => ?_) (fun c23 => ?_)
        · skip
          have f23 := i_lt c23
          refine lv_iconst (v := 0) hx hb dX5_spans_30 (by decide) ?_
          exact ret _ _ _ _ _ dX5_spans_31 (iv_w (iv_c (x := (0 : Int32)) (k := 0) (by decide)) (by decide)) (⟨rfl, iv_w (iv_c (x := (0 : Int32)) (k := 0) (by decide)) (by decide), by have b0a := (hx1_1r).1; have b0b := (hx1_1r).2; have b1a := (hx2_13l).1; have b1b := (hx2_13l).2; have b2a := (hv10).1; have b2b := (hv10).2; have b3a := (hv22).1; have b3b := (hv22).2; omega⟩) hS
        · skip
          have f23 := i_nlt c23
          have hx1_23l : iv x1 0 60 := iv_lel hx1_1r hv22 (Int32.not_lt.mp c23) (by decide)
          have hv22_23r : iv v22 0 60 := iv_ler hx1_23l hv22 (Int32.not_lt.mp c23) (by decide)
          refine lv_iconst (v := 1) hx hb dX5_spans_26 (by decide) ?_
          refine lv_goto (tgt := 31) hx hb dX5_spans_27 (by decide) ?_
          have kl1 : (1 : Int32).toInt = 1 := by decide
          exact ret _ _ _ _ _ dX5_spans_31 (iv_w (iv_c (x := (1 : Int32)) (k := 1) (by decide)) (by decide)) (⟨rfl, iv_w (iv_c (x := (1 : Int32)) (k := 1) (by decide)) (by decide), by have b0a := (hx1_23l).1; have b0b := (hx1_23l).2; have b1a := (hx2_13l).1; have b1b := (hx2_13l).2; have b2a := (hv10).1; have b2b := (hv10).2; have b3a := (hv22_23r).1; have b3b := (hv22_23r).2; omega⟩) hS
set_option maxHeartbeats 4000000 in
set_option maxRecDepth 100000 in
theorem t_X6_add (l : Launch) {D : va_G} {c0 : Nat → ClassId} {Y : Nat → Option Nat} {ν : Nat → Nat} {H : Heap} (hT : TI D vwCl (tysOf c0) (RTg ν) Y H) {a0 : Nat} (ha0 : Y a0 = some 6) {x1 : Int32} (hx1 : iv x1 (-2147483648) 2147483647) : Met l yX6_add (wz yX6_add cX6_add 3 none) { frames := 0, cells := 0, slots := 0, locals := 0 } (TP D vwCl (tysOf c0) H [.ref a0, .int x1]) (TQv (fun H' => TI D vwCl (tysOf c0) (RTg ν) Y H') Y [6, 26]) 0 0 (pW Y [6, 26]) := by
  refine Met.ofW (cc := cX6_add) (maxL := 3) (ret := none) (by decide) rfl ?_
  intro p e s m args below meth c s₁ B hml hv
  obtain ⟨rfl, rfl, hK⟩ := hv
  have hx := B.exec
  have hb := B.bytes
  have hr := B.returns
  have hts : ∀ w ∈ wq, w.before _ s = true := fun w h => atoms_spec (ws := wz yX6_add cX6_add 3 none) B.pre w (List.mem_cons_of_mem _ h)
  have hown : s.vm.findClass RX6 = some m.cls := findClass_of_methodNamed B.named
  have hlocks := B.notSynchronized
  obtain ⟨R, hR⟩ : ∃ R : Room, R = ({ frames := 0, cells := 0, slots := 0, locals := 0 } : Room) := ⟨_, rfl⟩
  rw [show (headSpec (wz yX6_add cX6_add 3 none) { frames := 0, cells := 0, slots := 0, locals := 0 }).room = R from hR.symm]
  refine ti_mv hx hb hr hlocks (fun Q ret => ?_)
  have hl := lv_entry [.ref a0, .int x1] (n := 3) (Nat.le_of_ble_eq_true rfl)
  rw [lg_entry_eq]
  generalize (lg_sl [.ref a0, .int x1] ++ List.replicate (3 - (lg_sl [.ref a0, .int x1]).length) Slot.unset).toArray = ls at hl ⊢
  have hl : lv_has ls 3 [(0, .ref a0), (1, .int x1)] := hl
  refine ti_gen (P := fun H => TI D vwCl (tysOf c0) (RTg ν) Y H) (Y := Y) (ws := [6, 26]) hT (fun H locs hT hS => ?_)
  refine lv_bipush (v := 24) hx hb dX6_add_0 (by decide) ?_
  have J3 : ∀ (n : Nat) (j3_L2 : Int32) (H : Heap) (locs : List Loc) (ls : Array Slot), (j3_L2.toInt - (-8)).toNat < n → iv j3_L2 (-8) 24 → TI D vwCl (tysOf c0) (RTg ν) Y H → va_S (pW Y [6, 26]) s.heap H locs → lv_has ls 3 [(0, .ref a0), (1, .int x1), (2, .int j3_L2)] → W p l e R s m ([.ref a0, .int x1] : List Value).toArray below meth c H locs 0 0 Q (F0 m 3 ls []) := by
    intro n
    induction n with
    | zero => intro j3_L2 H locs ls hms; exact absurd hms (Nat.not_lt_zero _)
    | succ n ih3 =>
      intro j3_L2 H locs ls hms3 hj3_L2 hT hS hl
      refine lv_iload_n hx hb dX6_add_3 rfl (lv_at hl 2 rfl) ?_
      refine lv_if_lt (tgt := 46) hx hb dX6_add_4 (by decide) (fun c4 => ?_) (fun c4 => ?_)
      · skip
        have kl0 : (0 : Int32).toInt = 0 := by decide
        have f4 := i_lt c4
        have hj3_L2_4l : iv j3_L2 (-8) (-1) := iv_ltl hj3_L2 (iv_c (x := (0 : Int32)) (k := 0) (by decide)) c4 (by decide)
        exact ret _ _ _ _ dX6_add_46 (hT) hS
      · skip
        have kl0 : (0 : Int32).toInt = 0 := by decide
        have f4 := i_nlt c4
        have hj3_L2_4r : iv j3_L2 0 24 := iv_ler (iv_c (x := (0 : Int32)) (k := 0) (by decide)) hj3_L2 (Int32.not_lt.mp c4) (by decide)
        refine lv_aload_n hx hb dX6_add_7 rfl (lv_at hl 0 rfl) ?_
        refine ti_geti hx hb hts inlX6 hown hK hT ha0 rfl rfl rfl 1 (by decide) (hts _ kw_167) (fun _ h9 => h9) rfl dX6_add_8 (fun v8 hv8 hm8 => ?_)
        refine lv_sipush (v := 1600) hx hb dX6_add_11 (by decide) ?_
        refine lv_icmp_ge (tgt := 46) hx hb dX6_add_14 (by decide) (fun c14 => ?_) (fun c14 => ?_)
        · skip
          have kl1600 : (1600 : Int32).toInt = 1600 := by decide
          have f14 := i_le c14
          have hv8_14r : iv v8 1600 1600 := iv_ler (iv_c (x := (1600 : Int32)) (k := 1600) (by decide)) hv8 c14 (by decide)
          exact ret _ _ _ _ dX6_add_46 (hT) hS
        · skip
          have kl1600 : (1600 : Int32).toInt = 1600 := by decide
          have f14 := i_nle c14
          have hv8_14l : iv v8 0 1599 := iv_ltl hv8 (iv_c (x := (1600 : Int32)) (k := 1600) (by decide)) (Int32.not_le.mp c14) (by decide)
          refine lv_aload_n hx hb dX6_add_17 rfl (lv_at hl 0 rfl) ?_
          refine ti_getr hx hb hts inlX6 hown hK hT ha0 rfl rfl rfl 0 (by decide) (hts _ kw_48) (fun _ h9 => h9) rfl dX6_add_18 (fun v18 hv18 hm18 => ?_)
          refine lv_aload_n hx hb dX6_add_21 rfl (lv_at hl 0 rfl) ?_
          refine ti_getE (ci := 6) (v := .int v8) hx hb hts inlX6 hown hK hm8 rfl (by decide) (hts _ kw_167) (fun _ h9 => h9) dX6_add_22 ?_
          refine lv_iload_n hx hb dX6_add_25 rfl (lv_at hl 1 rfl) ?_
          refine lv_iload_n hx hb dX6_add_26 rfl (lv_at hl 2 rfl) ?_
          refine lv_ishr hx hb dX6_add_27 ?_
          refine lv_topi (fun v27 e27 => ?_)
          have hv27 : iv v27 (-2147483648) 2147483647 := iv_top _
          refine lv_i2b hx hb dX6_add_28 rfl ?_
          refine lv_topi (fun v28 e28 => ?_)
          have hv28 : iv v28 (-128) 127 := by rw [e28]; exact iv_byte _
          refine ti_bast hx hb (aT1 hK) hT hS hv18 rfl rfl hv8_14l (by decide) (fun _ _ _ => rfl)  (fun _ _ => trivial) dX6_add_29 (fun H locs hT hS oq29 he29 hk29 => ?_)
          refine lv_aload_n hx hb dX6_add_30 rfl (lv_at hl 0 rfl) ?_
          refine lv_dup hx hb dX6_add_31 rfl ?_
          refine ti_getE (ci := 6) (v := .int v8) hx hb hts inlX6 hown hK (hm8.kept (oq29 _ (ne_r ha0 hv18 rfl))) rfl (by decide) (hts _ kw_167) (fun _ h9 => h9) dX6_add_32 ?_
          refine lv_iconst (v := 1) hx hb dX6_add_35 (by decide) ?_
          refine lv_iadd hx hb dX6_add_36 ?_
          refine lv_topi (fun v36 e36 => ?_)
          have hv36 : iv v36 1 1600 := by rw [e36]; exact iv_w (iv_add hv8_14l (iv_c (x := (1 : Int32)) (k := 1) (by decide)) (by decide)) (by decide)
          have s36 : v36.toInt = v8.toInt + 1 := by rw [e36, iv_addE hv8_14l (iv_c (x := (1 : Int32)) (k := 1) (by decide)) (by decide)]; rfl
          have kl1 : (1 : Int32).toInt = 1 := by decide
          refine ti_put (ty := .int) hx hb hts inlX6 tyX6 tyX6_ok nmX6 hown hK hT hS ha0 rfl rfl rfl rfl 1 (by decide) (hts _ kw_167) (fun _ h9 => h9) rfl rfl (by decide +kernel) rfl rfl ⟨v36, rfl, iv_w hv36 (by decide)⟩ (fun _ _ => trivial) dX6_add_37 (fun H locs hT hS oq37 he37 hk37 => ?_)
          obtain ⟨v40, e40⟩ : ∃ y : Int32, y = j3_L2 + (-8) := ⟨_, rfl⟩
          have hv40 : iv v40 (-8) 16 := by rw [e40]; exact iv_w (iv_add hj3_L2_4r (iv_c (x := (-8 : Int32)) (k := (-8)) (by decide)) (by decide)) (by decide)
          have s40 : v40.toInt = j3_L2.toInt + (-8) := by rw [e40, iv_addE hj3_L2_4r (iv_c (x := (-8 : Int32)) (k := (-8)) (by decide)) (by decide)]; rfl
          refine lv_iinc (v := v40) (lv' := [(2, .int v40), (0, .ref a0), (1, .int x1)]) hx hb dX6_add_40 hl (k := 2) rfl (by rw [e40]; rfl) (by decide) rfl (fun ls hl => ?_)
          refine lv_goto (tgt := 3) hx hb dX6_add_43 (by decide) ?_
          exact ih3 v40 _ _ _ (ms_dn hms3 (by have := s40; omega) (iv_w (c := (-8)) (d := 16) hv40 (by decide)).1) (iv_w hv40 (by decide)) hT hS (lv_sub hl [1, 2, 0] rfl)
  refine lv_istore_n (lv' := [(2, .int (24 : Int32)), (0, .ref a0), (1, .int x1)]) hx hb dX6_add_2 rfl hl (by decide) rfl (fun ls hl => ?_)
  exact J3 _ (24 : Int32) _ _ _ (Nat.lt_succ_self _) (iv_w (iv_c (x := (24 : Int32)) (k := 24) (by decide)) (by decide)) hT hS (lv_sub hl [1, 2, 0] rfl)
set_option maxHeartbeats 4000000 in
set_option maxRecDepth 100000 in
theorem t_X6_kindOf (l : Launch) {D : va_G} {c0 : Nat → ClassId} {Y : Nat → Option Nat} {ν : Nat → Nat} {H : Heap} (hT : TI D vwCl (tysOf c0) (RTg ν) Y H) {x0 : Int32} (hx0 : iv x0 (-128) 127) : Met l yX6_kindOf (wz yX6_kindOf cX6_kindOf 1 (some .int)) { frames := 0, cells := 0, slots := 0, locals := 0 } (TP D vwCl (tysOf c0) H [.int x0]) (TQi (fun x H' => H' = H ∧ iv x 1 4) Y []) 0 0 (pW Y []) := by
  refine Met.ofW (cc := cX6_kindOf) (maxL := 1) (ret := (some .int)) (by decide) rfl ?_
  intro p e s m args below meth c s₁ B hml hv
  obtain ⟨rfl, rfl, hK⟩ := hv
  have hx := B.exec
  have hb := B.bytes
  have hr := B.returns
  have hts : ∀ w ∈ wq, w.before _ s = true := fun w h => atoms_spec (ws := wz yX6_kindOf cX6_kindOf 1 (some .int)) B.pre w (List.mem_cons_of_mem _ h)
  have hown : s.vm.findClass RX6 = some m.cls := findClass_of_methodNamed B.named
  have hlocks := B.notSynchronized
  obtain ⟨R, hR⟩ : ∃ R : Room, R = ({ frames := 0, cells := 0, slots := 0, locals := 0 } : Room) := ⟨_, rfl⟩
  rw [show (headSpec (wz yX6_kindOf cX6_kindOf 1 (some .int)) { frames := 0, cells := 0, slots := 0, locals := 0 }).room = R from hR.symm]
  refine ti_mi hx hb hr hlocks (fun Q ret => ?_)
  have hl := lv_entry [.int x0] (n := 1) (Nat.le_of_ble_eq_true rfl)
  rw [lg_entry_eq]
  generalize (lg_sl [.int x0] ++ List.replicate (1 - (lg_sl [.int x0]).length) Slot.unset).toArray = ls at hl ⊢
  have hl : lv_has ls 1 [(0, .int x0)] := hl
  have hS : va_S (pW Y []) s.heap s.heap [] := va_S.rf
  refine lv_iload_n hx hb dX6_kindOf_0 rfl (lv_at hl 0 rfl) ?_
  refine lv_bipush (v := 97) hx hb dX6_kindOf_1 (by decide) ?_
  have J14 : ∀  (locs : List Loc) (ls : Array Slot), va_S (pW Y []) s.heap s.heap locs → lv_has ls 1 [(0, .int x0)] → W p l e R s m ([.int x0] : List Value).toArray below meth c s.heap locs 0 0 Q (F0 m 14 ls []) := by
    intro  locs ls  hS hl
    refine lv_iload_n hx hb dX6_kindOf_14 rfl (lv_at hl 0 rfl) ?_
    refine lv_bipush (v := 48) hx hb dX6_kindOf_15 (by decide) ?_
    have J28 : ∀  (locs : List Loc) (ls : Array Slot), va_S (pW Y []) s.heap s.heap locs → lv_has ls 1 [(0, .int x0)] → W p l e R s m ([.int x0] : List Value).toArray below meth c s.heap locs 0 0 Q (F0 m 28 ls []) := by
      intro  locs ls  hS hl
      refine lv_iload_n hx hb dX6_kindOf_28 rfl (lv_at hl 0 rfl) ?_
      refine lv_bipush (v := 59) hx hb dX6_kindOf_29 (by decide) ?_
      refine lv_icmp_ne (tgt := 38) hx hb dX6_kindOf_31 (by decide) (fun c31 => ?_) (fun c31 => ?_)
      · skip
        have kl59 : (59 : Int32).toInt = 59 := by decide
        have f31 := i_ne c31
        refine lv_iconst (v := 4) hx hb dX6_kindOf_38 (by decide) ?_
        exact ret _ _ _ _ _ dX6_kindOf_39 (⟨rfl, iv_w (iv_c (x := (4 : Int32)) (k := 4) (by decide)) (by decide)⟩) hS
      · skip
        have kl59 : (59 : Int32).toInt = 59 := by decide
        have f31 := i_eq c31
        have hx0_31l : iv x0 59 59 := iv_eql hx0 (iv_c (x := (59 : Int32)) (k := 59) (by decide)) c31 (by decide)
        refine lv_iconst (v := 3) hx hb dX6_kindOf_34 (by decide) ?_
        refine lv_goto (tgt := 39) hx hb dX6_kindOf_35 (by decide) ?_
        exact ret _ _ _ _ _ dX6_kindOf_39 (⟨rfl, iv_w (iv_c (x := (3 : Int32)) (k := 3) (by decide)) (by decide)⟩) hS
    refine lv_icmp_lt (tgt := 28) hx hb dX6_kindOf_17 (by decide) (fun c17 => ?_) (fun c17 => ?_)
    · skip
      have kl48 : (48 : Int32).toInt = 48 := by decide
      have f17 := i_lt c17
      have hx0_17l : iv x0 (-128) 47 := iv_ltl hx0 (iv_c (x := (48 : Int32)) (k := 48) (by decide)) c17 (by decide)
      exact J28  _ _    hS (lv_sub hl [0] rfl)
    · skip
      have kl48 : (48 : Int32).toInt = 48 := by decide
      have f17 := i_nlt c17
      have hx0_17r : iv x0 48 127 := iv_ler (iv_c (x := (48 : Int32)) (k := 48) (by decide)) hx0 (Int32.not_lt.mp c17) (by decide)
      refine lv_iload_n hx hb dX6_kindOf_20 rfl (lv_at hl 0 rfl) ?_
      refine lv_bipush (v := 57) hx hb dX6_kindOf_21 (by decide) ?_
      refine lv_icmp_gt (tgt := 28) hx hb dX6_kindOf_23 (by decide) (fun c23 => ?_) (fun c23 => ?_)
      · skip
        have kl57 : (57 : Int32).toInt = 57 := by decide
        have f23 := i_lt c23
        have hx0_23r : iv x0 58 127 := iv_ltr (iv_c (x := (57 : Int32)) (k := 57) (by decide)) hx0_17r c23 (by decide)
        exact J28  _ _    hS (lv_sub hl [0] rfl)
      · skip
        have kl57 : (57 : Int32).toInt = 57 := by decide
        have f23 := i_nlt c23
        have hx0_23l : iv x0 48 57 := iv_lel hx0_17r (iv_c (x := (57 : Int32)) (k := 57) (by decide)) (Int32.not_lt.mp c23) (by decide)
        refine lv_iconst (v := 2) hx hb dX6_kindOf_26 (by decide) ?_
        exact ret _ _ _ _ _ dX6_kindOf_27 (⟨rfl, iv_w (iv_c (x := (2 : Int32)) (k := 2) (by decide)) (by decide)⟩) hS
  refine lv_icmp_lt (tgt := 14) hx hb dX6_kindOf_3 (by decide) (fun c3 => ?_) (fun c3 => ?_)
  · skip
    have kl97 : (97 : Int32).toInt = 97 := by decide
    have f3 := i_lt c3
    have hx0_3l : iv x0 (-128) 96 := iv_ltl hx0 (iv_c (x := (97 : Int32)) (k := 97) (by decide)) c3 (by decide)
    exact J14  _ _    hS (lv_sub hl [0] rfl)
  · skip
    have kl97 : (97 : Int32).toInt = 97 := by decide
    have f3 := i_nlt c3
    have hx0_3r : iv x0 97 127 := iv_ler (iv_c (x := (97 : Int32)) (k := 97) (by decide)) hx0 (Int32.not_lt.mp c3) (by decide)
    refine lv_iload_n hx hb dX6_kindOf_6 rfl (lv_at hl 0 rfl) ?_
    refine lv_bipush (v := 122) hx hb dX6_kindOf_7 (by decide) ?_
    refine lv_icmp_gt (tgt := 14) hx hb dX6_kindOf_9 (by decide) (fun c9 => ?_) (fun c9 => ?_)
    · skip
      have kl122 : (122 : Int32).toInt = 122 := by decide
      have f9 := i_lt c9
      have hx0_9r : iv x0 123 127 := iv_ltr (iv_c (x := (122 : Int32)) (k := 122) (by decide)) hx0_3r c9 (by decide)
      exact J14  _ _    hS (lv_sub hl [0] rfl)
    · skip
      have kl122 : (122 : Int32).toInt = 122 := by decide
      have f9 := i_nlt c9
      have hx0_9l : iv x0 97 122 := iv_lel hx0_3r (iv_c (x := (122 : Int32)) (k := 122) (by decide)) (Int32.not_lt.mp c9) (by decide)
      refine lv_iconst (v := 1) hx hb dX6_kindOf_12 (by decide) ?_
      exact ret _ _ _ _ _ dX6_kindOf_13 (⟨rfl, iv_w (iv_c (x := (1 : Int32)) (k := 1) (by decide)) (by decide)⟩) hS
set_option maxHeartbeats 4000000 in
set_option maxRecDepth 100000 in
theorem t_X6_advance (l : Launch) {D : va_G} {c0 : Nat → ClassId} {Y : Nat → Option Nat} {ν : Nat → Nat} {H : Heap} (hT : TI D vwCl (tysOf c0) (RTg ν) Y H) {a0 : Nat} (ha0 : Y a0 = some 6) {m0 : Int32} (hm0 : fi D vwCl a0 6 10 (.int m0) H) (hmi0 : iv m0 (-2147483648) 2147483647) : Met l yX6_advance (wz yX6_advance cX6_advance 2 none) { frames := 1, cells := 0, slots := 0, locals := 60 } (TP D vwCl (tysOf c0) H [.ref a0]) (TQv (fun H' => TI D vwCl (tysOf c0) (RTg ν) Y H' ∧ (∃ w0 : Int32, fi D vwCl a0 6 10 (.int w0) H' ∧ iv w0 (-2147483648) 2147483647 ∧ (w0.toInt = m0.toInt))) Y [6]) 0 0 (pW Y [6]) := by
  refine Met.ofW (cc := cX6_advance) (maxL := 2) (ret := none) (by decide) rfl ?_
  intro p e s m args below meth c s₁ B hml hv
  obtain ⟨rfl, rfl, hK⟩ := hv
  have hx := B.exec
  have hb := B.bytes
  have hr := B.returns
  have hts : ∀ w ∈ wq, w.before _ s = true := fun w h => atoms_spec (ws := wz yX6_advance cX6_advance 2 none) B.pre w (List.mem_cons_of_mem _ h)
  have hown : s.vm.findClass RX6 = some m.cls := findClass_of_methodNamed B.named
  have hlocks := B.notSynchronized
  obtain ⟨R, hR⟩ : ∃ R : Room, R = ({ frames := 1, cells := 0, slots := 0, locals := 60 } : Room) := ⟨_, rfl⟩
  rw [show (headSpec (wz yX6_advance cX6_advance 2 none) { frames := 1, cells := 0, slots := 0, locals := 60 }).room = R from hR.symm]
  refine ti_mv hx hb hr hlocks (fun Q ret => ?_)
  have hl := lv_entry [.ref a0] (n := 2) (Nat.le_of_ble_eq_true rfl)
  rw [lg_entry_eq]
  generalize (lg_sl [.ref a0] ++ List.replicate (2 - (lg_sl [.ref a0]).length) Slot.unset).toArray = ls at hl ⊢
  have hl : lv_has ls 2 [(0, .ref a0)] := hl
  refine ti_gen (P := fun H => TI D vwCl (tysOf c0) (RTg ν) Y H ∧ fi D vwCl a0 6 10 (.int m0) H) (Y := Y) (ws := [6]) ⟨hT, hm0⟩ (fun H locs hT hS => ?_)
  clear hm0
  obtain ⟨hT, hm0⟩ := hT
  refine lv_aload_n hx hb dX6_advance_0 rfl (lv_at hl 0 rfl) ?_
  refine lv_aload_n hx hb dX6_advance_1 rfl (lv_at hl 0 rfl) ?_
  refine ti_geti hx hb hts inlX6 hown hK hT ha0 rfl rfl rfl 5 (by decide) (hts _ kw_194) (fun _ h9 => h9) rfl dX6_advance_2 (fun v2 hv2 hm2 => ?_)
  have J8 : ∀ (n : Nat) (j8_Ma0_4 : Int32) (H : Heap) (locs : List Loc) (ls : Array Slot), (1600 - j8_Ma0_4.toInt).toNat < n → iv j8_Ma0_4 0 1600 → fi D vwCl a0 6 4 (.int j8_Ma0_4) H → fi D vwCl a0 6 5 (.int v2) H → fi D vwCl a0 6 10 (.int m0) H → TI D vwCl (tysOf c0) (RTg ν) Y H → va_S (pW Y [6]) s.heap H locs → lv_has ls 2 [(0, .ref a0)] → W p l e R s m ([.ref a0] : List Value).toArray below meth c H locs 0 0 Q (F0 m 8 ls []) := by
    intro n
    induction n with
    | zero => intro j8_Ma0_4 H locs ls hms; exact absurd hms (Nat.not_lt_zero _)
    | succ n ih8 =>
      intro j8_Ma0_4 H locs ls hms8 hj8_Ma0_4 hM8_a0_4 hM8_a0_5 hM8_a0_10 hT hS hl
      refine lv_aload_n hx hb dX6_advance_8 rfl (lv_at hl 0 rfl) ?_
      refine ti_getE (ci := 6) (v := .int j8_Ma0_4) hx hb hts inlX6 hown hK hM8_a0_4 rfl (by decide) (hts _ kw_207) (fun _ h9 => h9) dX6_advance_9 ?_
      refine lv_aload_n hx hb dX6_advance_12 rfl (lv_at hl 0 rfl) ?_
      refine ti_geti hx hb hts inlX6 hown hK hT ha0 rfl rfl rfl 1 (by decide) (hts _ kw_167) (fun _ h9 => h9) rfl dX6_advance_13 (fun v13 hv13 hm13 => ?_)
      have J60 : ∀  (H : Heap) (locs : List Loc) (ls : Array Slot), fi D vwCl a0 6 4 (.int j8_Ma0_4) H → fi D vwCl a0 6 5 (.int v2) H → fi D vwCl a0 6 10 (.int m0) H → TI D vwCl (tysOf c0) (RTg ν) Y H → va_S (pW Y [6]) s.heap H locs → lv_has ls 2 [(0, .ref a0)] → W p l e R s m ([.ref a0] : List Value).toArray below meth c H locs 0 0 Q (F0 m 60 ls []) := by
        intro  H locs ls hM60_a0_4 hM60_a0_5 hM60_a0_10 hT hS hl
        refine lv_aload_n hx hb dX6_advance_60 rfl (lv_at hl 0 rfl) ?_
        refine lv_aload_n hx hb dX6_advance_61 rfl (lv_at hl 0 rfl) ?_
        refine ti_getE (ci := 6) (v := .int j8_Ma0_4) hx hb hts inlX6 hown hK hM60_a0_4 rfl (by decide) (hts _ kw_207) (fun _ h9 => h9) dX6_advance_62 ?_
        refine ti_put (ty := .int) hx hb hts inlX6 tyX6 tyX6_ok nmX6 hown hK hT hS ha0 rfl rfl rfl rfl 5 (by decide) (hts _ kw_194) (fun _ h9 => h9) rfl rfl (by decide +kernel) rfl rfl ⟨j8_Ma0_4, rfl, iv_w hj8_Ma0_4 (by decide)⟩ (fun _ _ => trivial) dX6_advance_65 (fun H locs hT hS oq65 he65 hk65 => ?_)
        refine lv_aload_n hx hb dX6_advance_68 rfl (lv_at hl 0 rfl) ?_
        refine ti_getE (ci := 6) (v := .int j8_Ma0_4) hx hb hts inlX6 hown hK (hk65 _ _ (by decide) hM60_a0_4) rfl (by decide) (hts _ kw_207) (fun _ h9 => h9) dX6_advance_69 ?_
        refine lv_aload_n hx hb dX6_advance_72 rfl (lv_at hl 0 rfl) ?_
        refine ti_geti hx hb hts inlX6 hown hK hT ha0 rfl rfl rfl 1 (by decide) (hts _ kw_167) (fun _ h9 => h9) rfl dX6_advance_73 (fun v73 hv73 hm73 => ?_)
        refine lv_icmp_lt (tgt := 85) hx hb dX6_advance_76 (by decide) (fun c76 => ?_) (fun c76 => ?_)
        · skip
          have f76 := i_lt c76
          have hj8_Ma0_4_76l : iv j8_Ma0_4 0 1599 := iv_ltl hj8_Ma0_4 hv73 c76 (by decide)
          have hv73_76r : iv v73 1 1600 := iv_ltr hj8_Ma0_4_76l hv73 c76 (by decide)
          refine lv_aload_n hx hb dX6_advance_85 rfl (lv_at hl 0 rfl) ?_
          refine lv_aload_n hx hb dX6_advance_86 rfl (lv_at hl 0 rfl) ?_
          refine ti_getr hx hb hts inlX6 hown hK hT ha0 rfl rfl rfl 0 (by decide) (hts _ kw_48) (fun _ h9 => h9) rfl dX6_advance_87 (fun v87 hv87 hm87 => ?_)
          refine lv_aload_n hx hb dX6_advance_90 rfl (lv_at hl 0 rfl) ?_
          refine ti_getE (ci := 6) (v := .int j8_Ma0_4) hx hb hts inlX6 hown hK (hk65 _ _ (by decide) hM60_a0_4) rfl (by decide) (hts _ kw_207) (fun _ h9 => h9) dX6_advance_91 ?_
          refine ti_bald (lo := (-128)) (hi := 127) hx hb (aT1 hK) hT hv87 rfl hj8_Ma0_4_76l (by decide) (fun _ _ _ => ⟨_, _, rfl, by decide, by decide⟩) dX6_advance_94 (fun v94 hv94 hm94 => ?_)
          refine ti_calli (va_runS (As := [.int v94]) (rest := [.ref a0]) ⟨hx, hb, hml, hown, hts⟩ (t_X6_kindOf l hT (iv_w hv94 (by decide))) (cwS 1 hts (good_S kw_214 kw_215 kw_15 kw_216) rfl rfl rfl (by decide +kernel) ⟨by rw [hR]; decide, by rw [hR]; decide⟩) (ti_preS hK) rfl rfl hl.1 rfl (lv_room (Nat.le_of_ble_eq_true rfl)) dX6_advance_95 ⟨Nat.zero_le _, Nat.zero_le _⟩) hS (pW_sub rfl) (fun v95 H1 locs hB hS _ hk95 => ?_)
          obtain ⟨hH, hv95⟩ := hB
          rw [hH] at hS ⊢
          refine ti_put (ty := .int) hx hb hts inlX6 tyX6 tyX6_ok nmX6 hown hK hT hS ha0 rfl rfl rfl rfl 3 (by decide) (hts _ kw_199) (fun _ h9 => h9) rfl rfl (by decide +kernel) rfl rfl ⟨v95, rfl, iv_w hv95 (by decide)⟩ (fun _ _ => trivial) dX6_advance_98 (fun H locs hT hS oq98 he98 hk98 => ?_)
          refine lv_aload_n hx hb dX6_advance_101 rfl (lv_at hl 0 rfl) ?_
          refine lv_dup hx hb dX6_advance_102 rfl ?_
          refine ti_getE (ci := 6) (v := .int j8_Ma0_4) hx hb hts inlX6 hown hK (hk98 _ _ (by decide) he65) rfl (by decide) (hts _ kw_194) (fun _ h9 => h9) dX6_advance_103 ?_
          refine lv_iconst (v := 1) hx hb dX6_advance_106 (by decide) ?_
          refine lv_iadd hx hb dX6_advance_107 ?_
          refine lv_topi (fun v107 e107 => ?_)
          have hv107 : iv v107 1 1600 := by rw [e107]; exact iv_w (iv_add hj8_Ma0_4_76l (iv_c (x := (1 : Int32)) (k := 1) (by decide)) (by decide)) (by decide)
          have s107 : v107.toInt = j8_Ma0_4.toInt + 1 := by rw [e107, iv_addE hj8_Ma0_4_76l (iv_c (x := (1 : Int32)) (k := 1) (by decide)) (by decide)]; rfl
          have kl1 : (1 : Int32).toInt = 1 := by decide
          have J111 : ∀ (n : Nat) (j111_Ma0_5 : Int32) (H : Heap) (locs : List Loc) (ls : Array Slot), (1600 - j111_Ma0_5.toInt).toNat < n → fi D vwCl a0 6 4 (.int j8_Ma0_4) H → iv j111_Ma0_5 1 1600 → fi D vwCl a0 6 5 (.int j111_Ma0_5) H → fi D vwCl a0 6 10 (.int m0) H → TI D vwCl (tysOf c0) (RTg ν) Y H → va_S (pW Y [6]) s.heap H locs → lv_has ls 2 [(0, .ref a0)] → W p l e R s m ([.ref a0] : List Value).toArray below meth c H locs 0 0 Q (F0 m 111 ls []) := by
            intro n
            induction n with
            | zero => intro j111_Ma0_5 H locs ls hms; exact absurd hms (Nat.not_lt_zero _)
            | succ n ih111 =>
              intro j111_Ma0_5 H locs ls hms111 hM111_a0_4 hj111_Ma0_5 hM111_a0_5 hM111_a0_10 hT hS hl
              refine lv_aload_n hx hb dX6_advance_111 rfl (lv_at hl 0 rfl) ?_
              refine ti_getE (ci := 6) (v := .int j111_Ma0_5) hx hb hts inlX6 hown hK hM111_a0_5 rfl (by decide) (hts _ kw_194) (fun _ h9 => h9) dX6_advance_112 ?_
              refine lv_aload_n hx hb dX6_advance_115 rfl (lv_at hl 0 rfl) ?_
              refine ti_geti hx hb hts inlX6 hown hK hT ha0 rfl rfl rfl 1 (by decide) (hts _ kw_167) (fun _ h9 => h9) rfl dX6_advance_116 (fun v116 hv116 hm116 => ?_)
              have J162 : ∀  (H : Heap) (locs : List Loc) (ls : Array Slot), fi D vwCl a0 6 4 (.int j8_Ma0_4) H → fi D vwCl a0 6 5 (.int j111_Ma0_5) H → fi D vwCl a0 6 10 (.int m0) H → TI D vwCl (tysOf c0) (RTg ν) Y H → va_S (pW Y [6]) s.heap H locs → lv_has ls 2 [(0, .ref a0)] → W p l e R s m ([.ref a0] : List Value).toArray below meth c H locs 0 0 Q (F0 m 162 ls []) := by
                intro  H locs ls hM162_a0_4 hM162_a0_5 hM162_a0_10 hT hS hl
                refine lv_aload_n hx hb dX6_advance_162 rfl (lv_at hl 0 rfl) ?_
                refine lv_iconst (v := 0) hx hb dX6_advance_163 (by decide) ?_
                refine ti_put (ty := .int) hx hb hts inlX6 tyX6 tyX6_ok nmX6 hown hK hT hS ha0 rfl rfl rfl rfl 6 (by decide) (hts _ kw_208) (fun _ h9 => h9) rfl rfl (by decide +kernel) rfl rfl ⟨(0 : Int32), rfl, iv_w (iv_c (x := (0 : Int32)) (k := 0) (by decide)) (by decide)⟩ (fun _ _ => trivial) dX6_advance_164 (fun H locs hT hS oq164 he164 hk164 => ?_)
                refine lv_aload_n hx hb dX6_advance_167 rfl (lv_at hl 0 rfl) ?_
                refine ti_getE (ci := 6) (v := .int j8_Ma0_4) hx hb hts inlX6 hown hK (hk164 _ _ (by decide) hM162_a0_4) rfl (by decide) (hts _ kw_207) (fun _ h9 => h9) dX6_advance_168 ?_
                have J172 : ∀ (n : Nat) (j172_L1 : Int32) (H : Heap) (locs : List Loc) (ls : Array Slot), (1600 - j172_L1.toInt).toNat < n → iv j172_L1 0 1600 → fi D vwCl a0 6 4 (.int j8_Ma0_4) H → fi D vwCl a0 6 5 (.int j111_Ma0_5) H → fi D vwCl a0 6 10 (.int m0) H → TI D vwCl (tysOf c0) (RTg ν) Y H → va_S (pW Y [6]) s.heap H locs → lv_has ls 2 [(0, .ref a0), (1, .int j172_L1)] → W p l e R s m ([.ref a0] : List Value).toArray below meth c H locs 0 0 Q (F0 m 172 ls []) := by
                  intro n
                  induction n with
                  | zero => intro j172_L1 H locs ls hms; exact absurd hms (Nat.not_lt_zero _)
                  | succ n ih172 =>
                    intro j172_L1 H locs ls hms172 hj172_L1 hM172_a0_4 hM172_a0_5 hM172_a0_10 hT hS hl
                    refine lv_iload_n hx hb dX6_advance_172 rfl (lv_at hl 1 rfl) ?_
                    refine lv_aload_n hx hb dX6_advance_173 rfl (lv_at hl 0 rfl) ?_
                    refine ti_getE (ci := 6) (v := .int j111_Ma0_5) hx hb hts inlX6 hown hK hM172_a0_5 rfl (by decide) (hts _ kw_194) (fun _ h9 => h9) dX6_advance_174 ?_
                    refine lv_icmp_ge (tgt := 220) hx hb dX6_advance_177 (by decide) (fun c177 => ?_) (fun c177 => ?_)
                    · skip
                      have f177 := i_le c177
                      have hj172_L1_177r : iv j172_L1 1 1600 := iv_ler hj111_Ma0_5 hj172_L1 c177 (by decide)
                      exact ret _ _ _ _ dX6_advance_220 (⟨hT, ⟨m0, hM172_a0_10, iv_w hmi0 (by decide), (by have b0a := (hmi0).1; have b0b := (hmi0).2; have b1a := (hv2).1; have b1b := (hv2).2; have b2a := (hj8_Ma0_4_76l).1; have b2b := (hj8_Ma0_4_76l).2; have b3a := (hv13).1; have b3b := (hv13).2; have b4a := (hv73_76r).1; have b4b := (hv73_76r).2; have b5a := (hv94).1; have b5b := (hv94).2; have b6a := (hv95).1; have b6b := (hv95).2; have b7a := (hv107).1; have b7b := (hv107).2; have b8a := (hj111_Ma0_5).1; have b8b := (hj111_Ma0_5).2; have b9a := (hv116).1; have b9b := (hv116).2; have b10a := (hj172_L1_177r).1; have b10b := (hj172_L1_177r).2; omega)⟩⟩) hS
                    · skip
                      have f177 := i_nle c177
                      have hj172_L1_177l : iv j172_L1 0 1599 := iv_ltl hj172_L1 hj111_Ma0_5 (Int32.not_le.mp c177) (by decide)
                      refine lv_aload_n hx hb dX6_advance_180 rfl (lv_at hl 0 rfl) ?_
                      refine ti_geti hx hb hts inlX6 hown hK hT ha0 rfl rfl rfl 3 (by decide) (hts _ kw_199) (fun _ h9 => h9) rfl dX6_advance_181 (fun v181 hv181 hm181 => ?_)
                      refine lv_iconst (v := 2) hx hb dX6_advance_184 (by decide) ?_
                      refine lv_icmp_ne (tgt := 220) hx hb dX6_advance_185 (by decide) (fun c185 => ?_) (fun c185 => ?_)
                      · skip
                        have kl2 : (2 : Int32).toInt = 2 := by decide
                        have f185 := i_ne c185
                        exact ret _ _ _ _ dX6_advance_220 (⟨hT, ⟨m0, hM172_a0_10, iv_w hmi0 (by decide), (by have b0a := (hmi0).1; have b0b := (hmi0).2; have b1a := (hv2).1; have b1b := (hv2).2; have b2a := (hj8_Ma0_4_76l).1; have b2b := (hj8_Ma0_4_76l).2; have b3a := (hv13).1; have b3b := (hv13).2; have b4a := (hv73_76r).1; have b4b := (hv73_76r).2; have b5a := (hv94).1; have b5b := (hv94).2; have b6a := (hv95).1; have b6b := (hv95).2; have b7a := (hv107).1; have b7b := (hv107).2; have b8a := (hj111_Ma0_5).1; have b8b := (hj111_Ma0_5).2; have b9a := (hv116).1; have b9b := (hv116).2; have b10a := (hj172_L1_177l).1; have b10b := (hj172_L1_177l).2; have b11a := (hv181).1; have b11b := (hv181).2; omega)⟩⟩) hS
                      · skip
                        have kl2 : (2 : Int32).toInt = 2 := by decide
                        have f185 := i_eq c185
                        have hv181_185l : iv v181 2 2 := iv_eql hv181 (iv_c (x := (2 : Int32)) (k := 2) (by decide)) c185 (by decide)
                        refine lv_aload_n hx hb dX6_advance_188 rfl (lv_at hl 0 rfl) ?_
                        refine lv_ldc (v := 100000) hx hb hown (hts _ kw_209) dX6_advance_189 ?_
                        refine lv_aload_n hx hb dX6_advance_191 rfl (lv_at hl 0 rfl) ?_
                        refine ti_geti hx hb hts inlX6 hown hK hT ha0 rfl rfl rfl 6 (by decide) (hts _ kw_208) (fun _ h9 => h9) rfl dX6_advance_192 (fun v192 hv192 hm192 => ?_)
                        refine lv_bipush (v := 10) hx hb dX6_advance_195 (by decide) ?_
                        refine lv_imul hx hb dX6_advance_197 ?_
                        refine lv_topi (fun v197 e197 => ?_)
                        have hv197 : iv v197 (-2147483648) 2147483647 := iv_top _
                        refine lv_aload_n hx hb dX6_advance_198 rfl (lv_at hl 0 rfl) ?_
                        refine ti_getr hx hb hts inlX6 hown hK hT ha0 rfl rfl rfl 0 (by decide) (hts _ kw_48) (fun _ h9 => h9) rfl dX6_advance_199 (fun v199 hv199 hm199 => ?_)
                        refine lv_iload_n hx hb dX6_advance_202 rfl (lv_at hl 1 rfl) ?_
                        refine ti_bald (lo := (-128)) (hi := 127) hx hb (aT1 hK) hT hv199 rfl hj172_L1_177l (by decide) (fun _ _ _ => ⟨_, _, rfl, by decide, by decide⟩) dX6_advance_203 (fun v203 hv203 hm203 => ?_)
                        refine lv_iadd hx hb dX6_advance_204 ?_
                        refine lv_topi (fun v204 e204 => ?_)
                        have hv204 : iv v204 (-2147483648) 2147483647 := iv_top _
                        refine lv_bipush (v := 48) hx hb dX6_advance_205 (by decide) ?_
                        refine lv_isub hx hb dX6_advance_207 ?_
                        refine lv_topi (fun v207 e207 => ?_)
                        have hv207 : iv v207 (-2147483648) 2147483647 := iv_top _
                        refine va_mmin hx hb (by rw [hml]; exact hl.1.symm) hown (hts _ kw_210) (hts _ kw_211) (hts _ kw_212) (hts _ kw_213) (by rw [hR]; decide) (by rw [hR]; exact Nat.le_of_ble_eq_true rfl) (Nat.zero_le _) (Nat.zero_le _) dX6_advance_208 ?_
                        refine lv_topi (fun v208 e208 => ?_)
                        have hv208 : iv v208 (-2147483648) 100000 := by rw [e208]; exact iv_min (iv_c (x := (100000 : Int32)) (k := 100000) (by decide)) hv207 (by decide)
                        refine ti_put (ty := .int) hx hb hts inlX6 tyX6 tyX6_ok nmX6 hown hK hT hS ha0 rfl rfl rfl rfl 6 (by decide) (hts _ kw_208) (fun _ h9 => h9) rfl rfl (by decide +kernel) rfl rfl ⟨v208, rfl, iv_w hv208 (by decide)⟩ (fun _ _ => trivial) dX6_advance_211 (fun H locs hT hS oq211 he211 hk211 => ?_)
                        obtain ⟨v214, e214⟩ : ∃ y : Int32, y = j172_L1 + 1 := ⟨_, rfl⟩
                        have hv214 : iv v214 1 1600 := by rw [e214]; exact iv_w (iv_add hj172_L1_177l (iv_c (x := (1 : Int32)) (k := 1) (by decide)) (by decide)) (by decide)
                        have s214 : v214.toInt = j172_L1.toInt + 1 := by rw [e214, iv_addE hj172_L1_177l (iv_c (x := (1 : Int32)) (k := 1) (by decide)) (by decide)]; rfl
                        refine lv_iinc (v := v214) (lv' := [(1, .int v214), (0, .ref a0)]) hx hb dX6_advance_214 hl (k := 1) rfl (by rw [e214]; rfl) (by decide) rfl (fun ls hl => ?_)
                        refine lv_goto (tgt := 172) hx hb dX6_advance_217 (by decide) ?_
                        exact ih172 v214 _ _ _ (ms_up hms172 (by have := s214; omega) (iv_w (c := 1) (d := 1600) hv214 (by decide)).2) (iv_w hv214 (by decide)) (hk211 _ _ (by decide) hM172_a0_4) (hk211 _ _ (by decide) hM172_a0_5) (hk211 _ _ (by decide) hM172_a0_10) hT hS (lv_sub hl [1, 0] rfl)
                refine lv_istore_n (lv' := [(1, .int j8_Ma0_4), (0, .ref a0)]) hx hb dX6_advance_171 rfl hl (by decide) rfl (fun ls hl => ?_)
                exact J172 _ j8_Ma0_4 _ _ _ (Nat.lt_succ_self _) (iv_w hj8_Ma0_4_76l (by decide)) (hk164 _ _ (by decide) hM162_a0_4) (hk164 _ _ (by decide) hM162_a0_5) (hk164 _ _ (by decide) hM162_a0_10) hT hS (lv_sub hl [1, 0] rfl)
              refine lv_icmp_ge (tgt := 162) hx hb dX6_advance_119 (by decide) (fun c119 => ?_) (fun c119 => ?_)
              · skip
                have f119 := i_le c119
                exact J162  _ _ _  hM111_a0_4 hM111_a0_5 hM111_a0_10 hT hS (lv_sub hl [0] rfl)
              · skip
                have f119 := i_nle c119
                have hj111_Ma0_5_119l : iv j111_Ma0_5 1 1599 := iv_ltl hj111_Ma0_5 hv116 (Int32.not_le.mp c119) (by decide)
                have hv116_119r : iv v116 2 1600 := iv_ltr hj111_Ma0_5_119l hv116 (Int32.not_le.mp c119) (by decide)
                refine lv_aload_n hx hb dX6_advance_122 rfl (lv_at hl 0 rfl) ?_
                refine ti_geti hx hb hts inlX6 hown hK hT ha0 rfl rfl rfl 3 (by decide) (hts _ kw_199) (fun _ h9 => h9) rfl dX6_advance_123 (fun v123 hv123 hm123 => ?_)
                refine lv_iconst (v := 2) hx hb dX6_advance_126 (by decide) ?_
                refine lv_icmp_gt (tgt := 162) hx hb dX6_advance_127 (by decide) (fun c127 => ?_) (fun c127 => ?_)
                · skip
                  have kl2 : (2 : Int32).toInt = 2 := by decide
                  have f127 := i_lt c127
                  have hv123_127r : iv v123 3 2147483647 := iv_ltr (iv_c (x := (2 : Int32)) (k := 2) (by decide)) hv123 c127 (by decide)
                  exact J162  _ _ _  hM111_a0_4 hM111_a0_5 hM111_a0_10 hT hS (lv_sub hl [0] rfl)
                · skip
                  have kl2 : (2 : Int32).toInt = 2 := by decide
                  have f127 := i_nlt c127
                  have hv123_127l : iv v123 (-2147483648) 2 := iv_lel hv123 (iv_c (x := (2 : Int32)) (k := 2) (by decide)) (Int32.not_lt.mp c127) (by decide)
                  refine lv_aload_n hx hb dX6_advance_130 rfl (lv_at hl 0 rfl) ?_
                  refine ti_getr hx hb hts inlX6 hown hK hT ha0 rfl rfl rfl 0 (by decide) (hts _ kw_48) (fun _ h9 => h9) rfl dX6_advance_131 (fun v131 hv131 hm131 => ?_)
                  refine lv_aload_n hx hb dX6_advance_134 rfl (lv_at hl 0 rfl) ?_
                  refine ti_getE (ci := 6) (v := .int j111_Ma0_5) hx hb hts inlX6 hown hK hM111_a0_5 rfl (by decide) (hts _ kw_194) (fun _ h9 => h9) dX6_advance_135 ?_
                  refine ti_bald (lo := (-128)) (hi := 127) hx hb (aT1 hK) hT hv131 rfl hj111_Ma0_5_119l (by decide) (fun _ _ _ => ⟨_, _, rfl, by decide, by decide⟩) dX6_advance_138 (fun v138 hv138 hm138 => ?_)
                  refine ti_calli (va_runS (As := [.int v138]) (rest := []) ⟨hx, hb, hml, hown, hts⟩ (t_X6_kindOf l hT (iv_w hv138 (by decide))) (cwS 1 hts (good_S kw_214 kw_215 kw_15 kw_216) rfl rfl rfl (by decide +kernel) ⟨by rw [hR]; decide, by rw [hR]; decide⟩) (ti_preS hK) rfl rfl hl.1 rfl (lv_room (Nat.le_of_ble_eq_true rfl)) dX6_advance_139 ⟨Nat.zero_le _, Nat.zero_le _⟩) hS (pW_sub rfl) (fun v139 H1 locs hB hS _ hk139 => ?_)
                  obtain ⟨hH, hv139⟩ := hB
                  rw [hH] at hS ⊢
                  refine lv_aload_n hx hb dX6_advance_142 rfl (lv_at hl 0 rfl) ?_
                  refine ti_getE (ci := 6) (v := .int v123) hx hb hts inlX6 hown hK hm123 rfl (by decide) (hts _ kw_199) (fun _ h9 => h9) dX6_advance_143 ?_
                  refine lv_icmp_ne (tgt := 162) hx hb dX6_advance_146 (by decide) (fun c146 => ?_) (fun c146 => ?_)
                  · skip
                    have f146 := i_ne c146
                    exact J162  _ _ _  hM111_a0_4 hM111_a0_5 hM111_a0_10 hT hS (lv_sub hl [0] rfl)
                  · skip
                    have f146 := i_eq c146
                    have hv139_146l : iv v139 1 2 := iv_eql hv139 hv123_127l c146 (by decide)
                    have hv123_146r : iv v123 1 2 := iv_eql hv123_127l hv139_146l (Eq.symm c146) (by decide)
                    refine lv_aload_n hx hb dX6_advance_149 rfl (lv_at hl 0 rfl) ?_
                    refine lv_dup hx hb dX6_advance_150 rfl ?_
                    refine ti_getE (ci := 6) (v := .int j111_Ma0_5) hx hb hts inlX6 hown hK hM111_a0_5 rfl (by decide) (hts _ kw_194) (fun _ h9 => h9) dX6_advance_151 ?_
                    refine lv_iconst (v := 1) hx hb dX6_advance_154 (by decide) ?_
                    refine lv_iadd hx hb dX6_advance_155 ?_
                    refine lv_topi (fun v155 e155 => ?_)
                    have hv155 : iv v155 2 1600 := by rw [e155]; exact iv_w (iv_add hj111_Ma0_5_119l (iv_c (x := (1 : Int32)) (k := 1) (by decide)) (by decide)) (by decide)
                    have s155 : v155.toInt = j111_Ma0_5.toInt + 1 := by rw [e155, iv_addE hj111_Ma0_5_119l (iv_c (x := (1 : Int32)) (k := 1) (by decide)) (by decide)]; rfl
                    refine ti_put (ty := .int) hx hb hts inlX6 tyX6 tyX6_ok nmX6 hown hK hT hS ha0 rfl rfl rfl rfl 5 (by decide) (hts _ kw_194) (fun _ h9 => h9) rfl rfl (by decide +kernel) rfl rfl ⟨v155, rfl, iv_w hv155 (by decide)⟩ (fun _ _ => trivial) dX6_advance_156 (fun H locs hT hS oq156 he156 hk156 => ?_)
                    refine lv_goto (tgt := 111) hx hb dX6_advance_159 (by decide) ?_
                    exact ih111 v155 _ _ _ (ms_up hms111 (by have := s155; omega) (iv_w (c := 2) (d := 1600) hv155 (by decide)).2) (hk156 _ _ (by decide) hM111_a0_4) (iv_w hv155 (by decide)) he156 (hk156 _ _ (by decide) hM111_a0_10) hT hS (lv_sub hl [0] rfl)
          refine ti_put (ty := .int) hx hb hts inlX6 tyX6 tyX6_ok nmX6 hown hK hT hS ha0 rfl rfl rfl rfl 5 (by decide) (hts _ kw_194) (fun _ h9 => h9) rfl rfl (by decide +kernel) rfl rfl ⟨v107, rfl, iv_w hv107 (by decide)⟩ (fun _ _ => trivial) dX6_advance_108 (fun H locs hT hS oq108 he108 hk108 => ?_)
          exact J111 _ v107 _ _ _ (Nat.lt_succ_self _) (hk108 _ _ (by decide) (hk98 _ _ (by decide) (hk65 _ _ (by decide) hM60_a0_4))) (iv_w hv107 (by decide)) he108 (hk108 _ _ (by decide) (hk98 _ _ (by decide) (hk65 _ _ (by decide) hM60_a0_10))) hT hS (lv_sub hl [0] rfl)
        · skip
          have f76 := i_nlt c76
          refine lv_aload_n hx hb dX6_advance_79 rfl (lv_at hl 0 rfl) ?_
          refine lv_iconst (v := 0) hx hb dX6_advance_80 (by decide) ?_
          refine ti_put (ty := .int) hx hb hts inlX6 tyX6 tyX6_ok nmX6 hown hK hT hS ha0 rfl rfl rfl rfl 3 (by decide) (hts _ kw_199) (fun _ h9 => h9) rfl rfl (by decide +kernel) rfl rfl ⟨(0 : Int32), rfl, iv_w (iv_c (x := (0 : Int32)) (k := 0) (by decide)) (by decide)⟩ (fun _ _ => trivial) dX6_advance_81 (fun H locs hT hS oq81 he81 hk81 => ?_)
          exact ret _ _ _ _ dX6_advance_84 (⟨hT, ⟨m0, (hk81 _ _ (by decide) (hk65 _ _ (by decide) hM60_a0_10)), iv_w hmi0 (by decide), (by have b0a := (hmi0).1; have b0b := (hmi0).2; have b1a := (hv2).1; have b1b := (hv2).2; have b2a := (hj8_Ma0_4).1; have b2b := (hj8_Ma0_4).2; have b3a := (hv13).1; have b3b := (hv13).2; have b4a := (hv73).1; have b4b := (hv73).2; omega)⟩⟩) hS
      refine lv_icmp_ge (tgt := 60) hx hb dX6_advance_16 (by decide) (fun c16 => ?_) (fun c16 => ?_)
      · skip
        have f16 := i_le c16
        exact J60  _ _ _  hM8_a0_4 hM8_a0_5 hM8_a0_10 hT hS (lv_sub hl [0] rfl)
      · skip
        have f16 := i_nle c16
        have hj8_Ma0_4_16l : iv j8_Ma0_4 0 1599 := iv_ltl hj8_Ma0_4 hv13 (Int32.not_le.mp c16) (by decide)
        have hv13_16r : iv v13 1 1600 := iv_ltr hj8_Ma0_4_16l hv13 (Int32.not_le.mp c16) (by decide)
        refine lv_aload_n hx hb dX6_advance_19 rfl (lv_at hl 0 rfl) ?_
        refine ti_getr hx hb hts inlX6 hown hK hT ha0 rfl rfl rfl 0 (by decide) (hts _ kw_48) (fun _ h9 => h9) rfl dX6_advance_20 (fun v20 hv20 hm20 => ?_)
        refine lv_aload_n hx hb dX6_advance_23 rfl (lv_at hl 0 rfl) ?_
        refine ti_getE (ci := 6) (v := .int j8_Ma0_4) hx hb hts inlX6 hown hK hM8_a0_4 rfl (by decide) (hts _ kw_207) (fun _ h9 => h9) dX6_advance_24 ?_
        refine ti_bald (lo := (-128)) (hi := 127) hx hb (aT1 hK) hT hv20 rfl hj8_Ma0_4_16l (by decide) (fun _ _ _ => ⟨_, _, rfl, by decide, by decide⟩) dX6_advance_27 (fun v27 hv27 hm27 => ?_)
        refine lv_bipush (v := 32) hx hb dX6_advance_28 (by decide) ?_
        have J47 : ∀  (H : Heap) (locs : List Loc) (ls : Array Slot), fi D vwCl a0 6 4 (.int j8_Ma0_4) H → fi D vwCl a0 6 5 (.int v2) H → fi D vwCl a0 6 10 (.int m0) H → TI D vwCl (tysOf c0) (RTg ν) Y H → va_S (pW Y [6]) s.heap H locs → lv_has ls 2 [(0, .ref a0)] → W p l e R s m ([.ref a0] : List Value).toArray below meth c H locs 0 0 Q (F0 m 47 ls []) := by
          intro  H locs ls hM47_a0_4 hM47_a0_5 hM47_a0_10 hT hS hl
          refine lv_aload_n hx hb dX6_advance_47 rfl (lv_at hl 0 rfl) ?_
          refine lv_dup hx hb dX6_advance_48 rfl ?_
          refine ti_getE (ci := 6) (v := .int j8_Ma0_4) hx hb hts inlX6 hown hK hM47_a0_4 rfl (by decide) (hts _ kw_207) (fun _ h9 => h9) dX6_advance_49 ?_
          refine lv_iconst (v := 1) hx hb dX6_advance_52 (by decide) ?_
          refine lv_iadd hx hb dX6_advance_53 ?_
          refine lv_topi (fun v53 e53 => ?_)
          have hv53 : iv v53 1 1600 := by rw [e53]; exact iv_w (iv_add hj8_Ma0_4_16l (iv_c (x := (1 : Int32)) (k := 1) (by decide)) (by decide)) (by decide)
          have s53 : v53.toInt = j8_Ma0_4.toInt + 1 := by rw [e53, iv_addE hj8_Ma0_4_16l (iv_c (x := (1 : Int32)) (k := 1) (by decide)) (by decide)]; rfl
          have kl1 : (1 : Int32).toInt = 1 := by decide
          refine ti_put (ty := .int) hx hb hts inlX6 tyX6 tyX6_ok nmX6 hown hK hT hS ha0 rfl rfl rfl rfl 4 (by decide) (hts _ kw_207) (fun _ h9 => h9) rfl rfl (by decide +kernel) rfl rfl ⟨v53, rfl, iv_w hv53 (by decide)⟩ (fun _ _ => trivial) dX6_advance_54 (fun H locs hT hS oq54 he54 hk54 => ?_)
          refine lv_goto (tgt := 8) hx hb dX6_advance_57 (by decide) ?_
          exact ih8 v53 _ _ _ (ms_up hms8 (by have := s53; omega) (iv_w (c := 1) (d := 1600) hv53 (by decide)).2) (iv_w hv53 (by decide)) he54 (hk54 _ _ (by decide) hM47_a0_5) (hk54 _ _ (by decide) hM47_a0_10) hT hS (lv_sub hl [0] rfl)
        refine lv_icmp_eq (tgt := 47) hx hb dX6_advance_30 (by decide) (fun c30 => ?_) (fun c30 => ?_)
        · skip
          have kl32 : (32 : Int32).toInt = 32 := by decide
          have f30 := i_eq c30
          have hv27_30l : iv v27 32 32 := iv_eql hv27 (iv_c (x := (32 : Int32)) (k := 32) (by decide)) c30 (by decide)
          exact J47  _ _ _  hM8_a0_4 hM8_a0_5 hM8_a0_10 hT hS (lv_sub hl [0] rfl)
        · skip
          have kl32 : (32 : Int32).toInt = 32 := by decide
          have f30 := i_ne c30
          refine lv_aload_n hx hb dX6_advance_33 rfl (lv_at hl 0 rfl) ?_
          refine ti_getE (ci := 6) (v := .ref v20) hx hb hts inlX6 hown hK hm20 rfl (by decide) (hts _ kw_48) (fun _ h9 => h9) dX6_advance_34 ?_
          refine lv_aload_n hx hb dX6_advance_37 rfl (lv_at hl 0 rfl) ?_
          refine ti_getE (ci := 6) (v := .int j8_Ma0_4) hx hb hts inlX6 hown hK hM8_a0_4 rfl (by decide) (hts _ kw_207) (fun _ h9 => h9) dX6_advance_38 ?_
          refine ti_bald (lo := (-128)) (hi := 127) hx hb (aT1 hK) hT hv20 rfl hj8_Ma0_4_16l (by decide) (fun _ _ _ => ⟨_, _, rfl, by decide, by decide⟩) dX6_advance_41 (fun v41 hv41 hm41 => ?_)
          refine lv_bipush (v := 10) hx hb dX6_advance_42 (by decide) ?_
          refine lv_icmp_ne (tgt := 60) hx hb dX6_advance_44 (by decide) (fun c44 => ?_) (fun c44 => ?_)
          · skip
            have kl10 : (10 : Int32).toInt = 10 := by decide
            have f44 := i_ne c44
            exact J60  _ _ _  hM8_a0_4 hM8_a0_5 hM8_a0_10 hT hS (lv_sub hl [0] rfl)
          · skip
            have kl10 : (10 : Int32).toInt = 10 := by decide
            have f44 := i_eq c44
            have hv41_44l : iv v41 10 10 := iv_eql hv41 (iv_c (x := (10 : Int32)) (k := 10) (by decide)) c44 (by decide)
            exact J47  _ _ _  hM8_a0_4 hM8_a0_5 hM8_a0_10 hT hS (lv_sub hl [0] rfl)
  refine ti_put (ty := .int) hx hb hts inlX6 tyX6 tyX6_ok nmX6 hown hK hT hS ha0 rfl rfl rfl rfl 4 (by decide) (hts _ kw_207) (fun _ h9 => h9) rfl rfl (by decide +kernel) rfl rfl ⟨v2, rfl, iv_w hv2 (by decide)⟩ (fun _ _ => trivial) dX6_advance_5 (fun H locs hT hS oq5 he5 hk5 => ?_)
  exact J8 _ v2 _ _ _ (Nat.lt_succ_self _) (iv_w hv2 (by decide)) he5 (hk5 _ _ (by decide) hm2) (hk5 _ _ (by decide) hm0) hT hS (lv_sub hl [0] rfl)
set_option maxHeartbeats 4000000 in
set_option maxRecDepth 100000 in
theorem t_X6_fail (l : Launch) {D : va_G} {c0 : Nat → ClassId} {Y : Nat → Option Nat} {ν : Nat → Nat} {H : Heap} (hT : TI D vwCl (tysOf c0) (RTg ν) Y H) {a0 : Nat} (ha0 : Y a0 = some 6) {x1 : Int32} (hx1 : iv x1 1 3) : Met l yX6_fail (wz yX6_fail cX6_fail 2 none) { frames := 0, cells := 0, slots := 0, locals := 0 } (TP D vwCl (tysOf c0) H [.ref a0, .int x1]) (TQv (fun H' => TI D vwCl (tysOf c0) (RTg ν) Y H' ∧ (∃ w0 : Int32, fi D vwCl a0 6 10 (.int w0) H' ∧ iv w0 (-2147483648) 2147483647 ∧ (¬ w0.toInt = 0))) Y [6]) 0 0 (pW Y [6]) := by
  refine Met.ofW (cc := cX6_fail) (maxL := 2) (ret := none) (by decide) rfl ?_
  intro p e s m args below meth c s₁ B hml hv
  obtain ⟨rfl, rfl, hK⟩ := hv
  have hx := B.exec
  have hb := B.bytes
  have hr := B.returns
  have hts : ∀ w ∈ wq, w.before _ s = true := fun w h => atoms_spec (ws := wz yX6_fail cX6_fail 2 none) B.pre w (List.mem_cons_of_mem _ h)
  have hown : s.vm.findClass RX6 = some m.cls := findClass_of_methodNamed B.named
  have hlocks := B.notSynchronized
  obtain ⟨R, hR⟩ : ∃ R : Room, R = ({ frames := 0, cells := 0, slots := 0, locals := 0 } : Room) := ⟨_, rfl⟩
  rw [show (headSpec (wz yX6_fail cX6_fail 2 none) { frames := 0, cells := 0, slots := 0, locals := 0 }).room = R from hR.symm]
  refine ti_mv hx hb hr hlocks (fun Q ret => ?_)
  have hl := lv_entry [.ref a0, .int x1] (n := 2) (Nat.le_of_ble_eq_true rfl)
  rw [lg_entry_eq]
  generalize (lg_sl [.ref a0, .int x1] ++ List.replicate (2 - (lg_sl [.ref a0, .int x1]).length) Slot.unset).toArray = ls at hl ⊢
  have hl : lv_has ls 2 [(0, .ref a0), (1, .int x1)] := hl
  refine ti_gen (P := fun H => TI D vwCl (tysOf c0) (RTg ν) Y H) (Y := Y) (ws := [6]) hT (fun H locs hT hS => ?_)
  refine lv_aload_n hx hb dX6_fail_0 rfl (lv_at hl 0 rfl) ?_
  refine ti_geti hx hb hts inlX6 hown hK hT ha0 rfl rfl rfl 10 (by decide) (hts _ kw_198) (fun _ h9 => h9) rfl dX6_fail_1 (fun v1 hv1 hm1 => ?_)
  refine lv_if_ne (tgt := 20) hx hb dX6_fail_4 (by decide) (fun c4 => ?_) (fun c4 => ?_)
  · skip
    have kl0 : (0 : Int32).toInt = 0 := by decide
    have f4 := i_ne c4
    exact ret _ _ _ _ dX6_fail_20 (⟨hT, ⟨v1, hm1, iv_w hv1 (by decide), (by have b0a := (hx1).1; have b0b := (hx1).2; have b1a := (hv1).1; have b1b := (hv1).2; omega)⟩⟩) hS
  · skip
    have kl0 : (0 : Int32).toInt = 0 := by decide
    have f4 := i_eq c4
    have hv1_4l : iv v1 0 0 := iv_eql hv1 (iv_c (x := (0 : Int32)) (k := 0) (by decide)) c4 (by decide)
    refine lv_aload_n hx hb dX6_fail_7 rfl (lv_at hl 0 rfl) ?_
    refine lv_iload_n hx hb dX6_fail_8 rfl (lv_at hl 1 rfl) ?_
    refine ti_put (ty := .int) hx hb hts inlX6 tyX6 tyX6_ok nmX6 hown hK hT hS ha0 rfl rfl rfl rfl 10 (by decide) (hts _ kw_198) (fun _ h9 => h9) rfl rfl (by decide +kernel) rfl rfl ⟨x1, rfl, iv_w hx1 (by decide)⟩ (fun _ _ => trivial) dX6_fail_9 (fun H locs hT hS oq9 he9 hk9 => ?_)
    refine lv_aload_n hx hb dX6_fail_12 rfl (lv_at hl 0 rfl) ?_
    refine lv_aload_n hx hb dX6_fail_13 rfl (lv_at hl 0 rfl) ?_
    refine ti_geti hx hb hts inlX6 hown hK hT ha0 rfl rfl rfl 4 (by decide) (hts _ kw_207) (fun _ h9 => h9) rfl dX6_fail_14 (fun v14 hv14 hm14 => ?_)
    refine ti_put (ty := .int) hx hb hts inlX6 tyX6 tyX6_ok nmX6 hown hK hT hS ha0 rfl rfl rfl rfl 11 (by decide) (hts _ kw_51) (fun _ h9 => h9) rfl rfl (by decide +kernel) rfl rfl ⟨v14, rfl, iv_w hv14 (by decide)⟩ (fun _ _ => trivial) dX6_fail_17 (fun H locs hT hS oq17 he17 hk17 => ?_)
    exact ret _ _ _ _ dX6_fail_20 (⟨hT, ⟨x1, (hk17 _ _ (by decide) he9), iv_w hx1 (by decide), (by have b0a := (hx1).1; have b0b := (hx1).2; have b1a := (hv1_4l).1; have b1b := (hv1_4l).2; have b2a := (hv14).1; have b2b := (hv14).2; omega)⟩⟩) hS
set_option maxHeartbeats 4000000 in
set_option maxRecDepth 100000 in
theorem t_X6_takeNumber (l : Launch) {D : va_G} {c0 : Nat → ClassId} {Y : Nat → Option Nat} {ν : Nat → Nat} {H : Heap} (hT : TI D vwCl (tysOf c0) (RTg ν) Y H) {a0 : Nat} (ha0 : Y a0 = some 6) {x1 : Int32} (hx1 : iv x1 0 5) {x2 : Int32} (hx2 : iv x2 (-2147483648) 100000) {m0 : Int32} (hm0 : fi D vwCl a0 6 10 (.int m0) H) (hmi0 : iv m0 (-2147483648) 2147483647) : Met l yX6_takeNumber (wz yX6_takeNumber cX6_takeNumber 4 (some .int)) { frames := 2, cells := 0, slots := 0, locals := 81 } (TP D vwCl (tysOf c0) H [.ref a0, .int x1, .int x2]) (TQi (fun x H' => TI D vwCl (tysOf c0) (RTg ν) Y H' ∧ iv x (-2147483648) 100000 ∧ (∃ w0 : Int32, fi D vwCl a0 6 10 (.int w0) H' ∧ iv w0 (-2147483648) 2147483647 ∧ ((¬ m0.toInt = 0 → ¬ w0.toInt = 0) ∧ (w0.toInt = 0 → x1.toInt ≤ x.toInt ∧ x.toInt ≤ x2.toInt)))) Y [6]) 0 0 (pW Y [6]) := by
  refine Met.ofW (cc := cX6_takeNumber) (maxL := 4) (ret := (some .int)) (by decide) rfl ?_
  intro p e s m args below meth c s₁ B hml hv
  obtain ⟨rfl, rfl, hK⟩ := hv
  have hx := B.exec
  have hb := B.bytes
  have hr := B.returns
  have hts : ∀ w ∈ wq, w.before _ s = true := fun w h => atoms_spec (ws := wz yX6_takeNumber cX6_takeNumber 4 (some .int)) B.pre w (List.mem_cons_of_mem _ h)
  have hown : s.vm.findClass RX6 = some m.cls := findClass_of_methodNamed B.named
  have hlocks := B.notSynchronized
  obtain ⟨R, hR⟩ : ∃ R : Room, R = ({ frames := 2, cells := 0, slots := 0, locals := 81 } : Room) := ⟨_, rfl⟩
  rw [show (headSpec (wz yX6_takeNumber cX6_takeNumber 4 (some .int)) { frames := 2, cells := 0, slots := 0, locals := 81 }).room = R from hR.symm]
  refine ti_mi hx hb hr hlocks (fun Q ret => ?_)
  have hl := lv_entry [.ref a0, .int x1, .int x2] (n := 4) (Nat.le_of_ble_eq_true rfl)
  rw [lg_entry_eq]
  generalize (lg_sl [.ref a0, .int x1, .int x2] ++ List.replicate (4 - (lg_sl [.ref a0, .int x1, .int x2]).length) Slot.unset).toArray = ls at hl ⊢
  have hl : lv_has ls 4 [(0, .ref a0), (1, .int x1), (2, .int x2)] := hl
  refine ti_gen (P := fun H => TI D vwCl (tysOf c0) (RTg ν) Y H ∧ fi D vwCl a0 6 10 (.int m0) H) (Y := Y) (ws := [6]) ⟨hT, hm0⟩ (fun H locs hT hS => ?_)
  clear hm0
  obtain ⟨hT, hm0⟩ := hT
  refine lv_aload_n hx hb dX6_takeNumber_0 rfl (lv_at hl 0 rfl) ?_
  refine ti_geti hx hb hts inlX6 hown hK hT ha0 rfl rfl rfl 6 (by decide) (hts _ kw_208) (fun _ h9 => h9) rfl dX6_takeNumber_1 (fun v1 hv1 hm1 => ?_)
  refine lv_istore_n (lv' := [(3, .int v1), (0, .ref a0), (1, .int x1), (2, .int x2)]) hx hb dX6_takeNumber_4 rfl hl (by decide) rfl (fun ls hl => ?_)
  refine lv_aload_n hx hb dX6_takeNumber_5 rfl (lv_at hl 1 rfl) ?_
  refine ti_geti hx hb hts inlX6 hown hK hT ha0 rfl rfl rfl 3 (by decide) (hts _ kw_199) (fun _ h9 => h9) rfl dX6_takeNumber_6 (fun v6 hv6 hm6 => ?_)
  refine lv_iconst (v := 2) hx hb dX6_takeNumber_9 (by decide) ?_
  have J36 : ∀ (j36_Ma0_10 : Int32) (H : Heap) (locs : List Loc) (ls : Array Slot), iv j36_Ma0_10 (-2147483648) 2147483647 → fi D vwCl a0 6 10 (.int j36_Ma0_10) H → (¬ m0.toInt = 0 → ¬ j36_Ma0_10.toInt = 0) → (j36_Ma0_10.toInt = 0 → x1.toInt ≤ v1.toInt ∧ v1.toInt ≤ x2.toInt) → TI D vwCl (tysOf c0) (RTg ν) Y H → va_S (pW Y [6]) s.heap H locs → lv_has ls 4 [(0, .ref a0), (1, .int x1), (2, .int x2), (3, .int v1)] → W p l e R s m ([.ref a0, .int x1, .int x2] : List Value).toArray below meth c H locs 0 0 Q (F0 m 36 ls []) := by
    intro j36_Ma0_10 H locs ls hj36_Ma0_10 hM36_a0_10 hT36_0 hT36_1 hT hS hl
    refine lv_aload_n hx hb dX6_takeNumber_36 rfl (lv_at hl 0 rfl) ?_
    refine ti_getE (ci := 6) (v := .int j36_Ma0_10) hx hb hts inlX6 hown hK hM36_a0_10 rfl (by decide) (hts _ kw_198) (fun _ h9 => h9) dX6_takeNumber_37 ?_
    refine lv_if_ne (tgt := 47) hx hb dX6_takeNumber_40 (by decide) (fun c40 => ?_) (fun c40 => ?_)
    · skip
      have kl0 : (0 : Int32).toInt = 0 := by decide
      have f40 := i_ne c40
      refine lv_iload_n hx hb dX6_takeNumber_47 rfl (lv_at hl 3 rfl) ?_
      exact ret _ _ _ _ _ dX6_takeNumber_48 (⟨hT, iv_w hv1 (by decide), ⟨j36_Ma0_10, hM36_a0_10, iv_w hj36_Ma0_10 (by decide), (by have b0a := (hx1).1; have b0b := (hx1).2; have b1a := (hx2).1; have b1b := (hx2).2; have b2a := (hmi0).1; have b2b := (hmi0).2; have b3a := (hv1).1; have b3b := (hv1).2; have b4a := (hv6).1; have b4b := (hv6).2; have b5a := (hj36_Ma0_10).1; have b5b := (hj36_Ma0_10).2; omega)⟩⟩) hS
    · skip
      have kl0 : (0 : Int32).toInt = 0 := by decide
      have f40 := i_eq c40
      have hj36_Ma0_10_40l : iv j36_Ma0_10 0 0 := iv_eql hj36_Ma0_10 (iv_c (x := (0 : Int32)) (k := 0) (by decide)) c40 (by decide)
      refine lv_aload_n hx hb dX6_takeNumber_43 rfl (lv_at hl 0 rfl) ?_
      refine ti_callv (va_runV (As := []) (rest := []) ⟨hx, hb, hml, hown, hts⟩ (t_X6_advance l hT ha0 hM36_a0_10 (iv_w hj36_Ma0_10_40l (by decide))) (cwV 0 hts (good_V kw_203 kw_204 kw_205 kw_15 kw_206) rfl rfl rfl (by decide +kernel) ⟨by rw [hR]; decide, by rw [hR]; decide⟩) (ti_preV hK hT ha0 rfl rfl) rfl rfl hl.1 rfl (lv_room (Nat.le_of_ble_eq_true rfl)) dX6_takeNumber_44 ⟨Nat.zero_le _, Nat.zero_le _⟩) hS (pW_sub rfl) (fun H locs hB hS _ hk44 => ?_)
      obtain ⟨hT, ⟨w44_0, hw44_0, hwi44_0, hwp44_0⟩⟩ := hB
      refine lv_iload_n hx hb dX6_takeNumber_47 rfl (lv_at hl 3 rfl) ?_
      exact ret _ _ _ _ _ dX6_takeNumber_48 (⟨hT, iv_w hv1 (by decide), ⟨w44_0, hw44_0, iv_w hwi44_0 (by decide), (by have b0a := (hx1).1; have b0b := (hx1).2; have b1a := (hx2).1; have b1b := (hx2).2; have b2a := (hmi0).1; have b2b := (hmi0).2; have b3a := (hv1).1; have b3b := (hv1).2; have b4a := (hv6).1; have b4b := (hv6).2; have b5a := (hj36_Ma0_10_40l).1; have b5b := (hj36_Ma0_10_40l).2; have b6a := (hwi44_0).1; have b6b := (hwi44_0).2; omega)⟩⟩) hS
  refine lv_icmp_eq (tgt := 21) hx hb dX6_takeNumber_10 (by decide) (fun c10 => ?_) (fun c10 => ?_)
  · skip
    have kl2 : (2 : Int32).toInt = 2 := by decide
    have f10 := i_eq c10
    have hv6_10l : iv v6 2 2 := iv_eql hv6 (iv_c (x := (2 : Int32)) (k := 2) (by decide)) c10 (by decide)
    refine lv_iload_n hx hb dX6_takeNumber_21 rfl (lv_at hl 0 rfl) ?_
    refine lv_iload_n hx hb dX6_takeNumber_22 rfl (lv_at hl 2 rfl) ?_
    have J31 : ∀  (H : Heap) (locs : List Loc) (ls : Array Slot), fi D vwCl a0 6 10 (.int m0) H → TI D vwCl (tysOf c0) (RTg ν) Y H → va_S (pW Y [6]) s.heap H locs → lv_has ls 4 [(0, .ref a0), (1, .int x1), (2, .int x2), (3, .int v1)] → W p l e R s m ([.ref a0, .int x1, .int x2] : List Value).toArray below meth c H locs 0 0 Q (F0 m 31 ls []) := by
      intro  H locs ls hM31_a0_10 hT hS hl
      refine lv_aload_n hx hb dX6_takeNumber_31 rfl (lv_at hl 0 rfl) ?_
      refine lv_iconst (v := 2) hx hb dX6_takeNumber_32 (by decide) ?_
      refine ti_callv (va_runV (As := [.int (2 : Int32)]) (rest := []) ⟨hx, hb, hml, hown, hts⟩ (t_X6_fail l hT ha0 (iv_w (iv_c (x := (2 : Int32)) (k := 2) (by decide)) (by decide))) (cwV 1 hts (good_V kw_274 kw_275 kw_276 kw_15 kw_277) rfl rfl rfl (by decide +kernel) ⟨by rw [hR]; decide, by rw [hR]; decide⟩) (ti_preV hK hT ha0 rfl rfl) rfl rfl hl.1 rfl (lv_room (Nat.le_of_ble_eq_true rfl)) dX6_takeNumber_33 ⟨Nat.zero_le _, Nat.zero_le _⟩) hS (pW_sub rfl) (fun H locs hB hS _ hk33 => ?_)
      obtain ⟨hT, ⟨w33_0, hw33_0, hwi33_0, hwp33_0⟩⟩ := hB
      exact J36 w33_0 _ _ _  (iv_w hwi33_0 (by decide)) hw33_0 (by have b0a := (hx1).1; have b0b := (hx1).2; have b1a := (hx2).1; have b1b := (hx2).2; have b2a := (hmi0).1; have b2b := (hmi0).2; have b3a := (hv1).1; have b3b := (hv1).2; have b4a := (hv6_10l).1; have b4b := (hv6_10l).2; have b5a := (hwi33_0).1; have b5b := (hwi33_0).2; omega) (by have b0a := (hx1).1; have b0b := (hx1).2; have b1a := (hx2).1; have b1b := (hx2).2; have b2a := (hmi0).1; have b2b := (hmi0).2; have b3a := (hv1).1; have b3b := (hv1).2; have b4a := (hv6_10l).1; have b4b := (hv6_10l).2; have b5a := (hwi33_0).1; have b5b := (hwi33_0).2; omega) hT hS (lv_sub hl [0, 1, 2, 3] rfl)
    refine lv_icmp_lt (tgt := 31) hx hb dX6_takeNumber_23 (by decide) (fun c23 => ?_) (fun c23 => ?_)
    · skip
      have f23 := i_lt c23
      have hv1_23l : iv v1 (-2147483648) 4 := iv_ltl hv1 hx1 c23 (by decide)
      exact J31  _ _ _  hm0 hT hS (lv_sub hl [1, 2, 3, 0] rfl)
    · skip
      have f23 := i_nlt c23
      have hv1_23r : iv v1 0 100000 := iv_ler hx1 hv1 (Int32.not_lt.mp c23) (by decide)
      refine lv_iload_n hx hb dX6_takeNumber_26 rfl (lv_at hl 0 rfl) ?_
      refine lv_iload_n hx hb dX6_takeNumber_27 rfl (lv_at hl 3 rfl) ?_
      refine lv_icmp_le (tgt := 36) hx hb dX6_takeNumber_28 (by decide) (fun c28 => ?_) (fun c28 => ?_)
      · skip
        have f28 := i_le c28
        have hx2_28r : iv x2 0 100000 := iv_ler hv1_23r hx2 c28 (by decide)
        exact J36 m0 _ _ _  (iv_w hmi0 (by decide)) hm0 (by have b0a := (hx1).1; have b0b := (hx1).2; have b1a := (hx2_28r).1; have b1b := (hx2_28r).2; have b2a := (hmi0).1; have b2b := (hmi0).2; have b3a := (hv1_23r).1; have b3b := (hv1_23r).2; have b4a := (hv6_10l).1; have b4b := (hv6_10l).2; omega) (by have b0a := (hx1).1; have b0b := (hx1).2; have b1a := (hx2_28r).1; have b1b := (hx2_28r).2; have b2a := (hmi0).1; have b2b := (hmi0).2; have b3a := (hv1_23r).1; have b3b := (hv1_23r).2; have b4a := (hv6_10l).1; have b4b := (hv6_10l).2; omega) hT hS (lv_sub hl [1, 2, 3, 0] rfl)
      · skip
        have f28 := i_nle c28
        have hx2_28l : iv x2 (-2147483648) 99999 := iv_ltl hx2 hv1_23r (Int32.not_le.mp c28) (by decide)
        exact J31  _ _ _  hm0 hT hS (lv_sub hl [1, 2, 3, 0] rfl)
  · skip
    have kl2 : (2 : Int32).toInt = 2 := by decide
    have f10 := i_ne c10
    refine lv_aload_n hx hb dX6_takeNumber_13 rfl (lv_at hl 1 rfl) ?_
    refine lv_iconst (v := 1) hx hb dX6_takeNumber_14 (by decide) ?_
    refine ti_callv (va_runV (As := [.int (1 : Int32)]) (rest := []) ⟨hx, hb, hml, hown, hts⟩ (t_X6_fail l hT ha0 (iv_w (iv_c (x := (1 : Int32)) (k := 1) (by decide)) (by decide))) (cwV 1 hts (good_V kw_274 kw_275 kw_276 kw_15 kw_277) rfl rfl rfl (by decide +kernel) ⟨by rw [hR]; decide, by rw [hR]; decide⟩) (ti_preV hK hT ha0 rfl rfl) rfl rfl hl.1 rfl (lv_room (Nat.le_of_ble_eq_true rfl)) dX6_takeNumber_15 ⟨Nat.zero_le _, Nat.zero_le _⟩) hS (pW_sub rfl) (fun H locs hB hS _ hk15 => ?_)
    obtain ⟨hT, ⟨w15_0, hw15_0, hwi15_0, hwp15_0⟩⟩ := hB
    refine lv_goto (tgt := 36) hx hb dX6_takeNumber_18 (by decide) ?_
    exact J36 w15_0 _ _ _  (iv_w hwi15_0 (by decide)) hw15_0 (by have b0a := (hx1).1; have b0b := (hx1).2; have b1a := (hx2).1; have b1b := (hx2).2; have b2a := (hmi0).1; have b2b := (hmi0).2; have b3a := (hv1).1; have b3b := (hv1).2; have b4a := (hv6).1; have b4b := (hv6).2; have b5a := (hwi15_0).1; have b5b := (hwi15_0).2; omega) (by have b0a := (hx1).1; have b0b := (hx1).2; have b1a := (hx2).1; have b1b := (hx2).2; have b2a := (hmi0).1; have b2b := (hmi0).2; have b3a := (hv1).1; have b3b := (hv1).2; have b4a := (hv6).1; have b4b := (hv6).2; have b5a := (hwi15_0).1; have b5b := (hwi15_0).2; omega) hT hS (lv_sub hl [1, 2, 3, 0] rfl)
set_option maxHeartbeats 4000000 in
set_option maxRecDepth 100000 in
theorem t_X7_addPerson (l : Launch) {D : va_G} {c0 : Nat → ClassId} {Y : Nat → Option Nat} {ν : Nat → Nat} {H : Heap} (hT : TI D vwCl (tysOf c0) (RTg ν) Y H) {a0 : Nat} (ha0 : Y a0 = some 7) {m0 : Int32} (hm0 : fi D vwCl a0 7 1 (.int m0) H) (hmi0 : iv m0 0 7) : Met l yX7_addPerson (wz yX7_addPerson cX7_addPerson 2 none) { frames := 0, cells := 0, slots := 0, locals := 0 } (TP D vwCl (tysOf c0) H [.ref a0]) (TQv (fun H' => TI D vwCl (tysOf c0) (RTg ν) Y H') Y [3, 7]) 0 0 (pW Y [3, 7]) := by
  refine Met.ofW (cc := cX7_addPerson) (maxL := 2) (ret := none) (by decide) rfl ?_
  intro p e s m args below meth c s₁ B hml hv
  obtain ⟨rfl, rfl, hK⟩ := hv
  have hx := B.exec
  have hb := B.bytes
  have hr := B.returns
  have hts : ∀ w ∈ wq, w.before _ s = true := fun w h => atoms_spec (ws := wz yX7_addPerson cX7_addPerson 2 none) B.pre w (List.mem_cons_of_mem _ h)
  have hown : s.vm.findClass RX7 = some m.cls := findClass_of_methodNamed B.named
  have hlocks := B.notSynchronized
  obtain ⟨R, hR⟩ : ∃ R : Room, R = ({ frames := 0, cells := 0, slots := 0, locals := 0 } : Room) := ⟨_, rfl⟩
  rw [show (headSpec (wz yX7_addPerson cX7_addPerson 2 none) { frames := 0, cells := 0, slots := 0, locals := 0 }).room = R from hR.symm]
  refine ti_mv hx hb hr hlocks (fun Q ret => ?_)
  have hl := lv_entry [.ref a0] (n := 2) (Nat.le_of_ble_eq_true rfl)
  rw [lg_entry_eq]
  generalize (lg_sl [.ref a0] ++ List.replicate (2 - (lg_sl [.ref a0]).length) Slot.unset).toArray = ls at hl ⊢
  have hl : lv_has ls 2 [(0, .ref a0)] := hl
  refine ti_gen (P := fun H => TI D vwCl (tysOf c0) (RTg ν) Y H ∧ fi D vwCl a0 7 1 (.int m0) H) (Y := Y) (ws := [3, 7]) ⟨hT, hm0⟩ (fun H locs hT hS => ?_)
  clear hm0
  obtain ⟨hT, hm0⟩ := hT
  refine lv_aload_n hx hb dX7_addPerson_0 rfl (lv_at hl 0 rfl) ?_
  refine ti_getr hx hb hts inlX7 hown hK hT ha0 rfl rfl rfl 8 (by decide) (hts _ kw_65) (fun _ h9 => h9) rfl dX7_addPerson_1 (fun v1 hv1 hm1 => ?_)
  refine lv_aload_n hx hb dX7_addPerson_4 rfl (lv_at hl 0 rfl) ?_
  refine ti_getE (ci := 7) (v := .int m0) hx hb hts inlX7 hown hK hm0 rfl (by decide) (hts _ kw_86) (fun _ h9 => h9) dX7_addPerson_5 ?_
  refine ti_aald hx hb (aT6 hK) hT hv1 rfl hmi0 (by decide) (fun _ _ _ => rfl) dX7_addPerson_8 (fun v8 hv8 => ?_)
  refine lv_astore_n (lv' := [(1, .ref v8), (0, .ref a0)]) hx hb dX7_addPerson_9 rfl hl (by decide) rfl (fun ls hl => ?_)
  refine lv_aload_n hx hb dX7_addPerson_10 rfl (lv_at hl 0 rfl) ?_
  refine lv_iconst (v := 0) hx hb dX7_addPerson_11 (by decide) ?_
  refine ti_put (ty := .int) hx hb hts inlX3 tyX3 tyX3_ok nmX3 hown hK hT hS hv8 rfl rfl rfl rfl 1 (by decide) (hts _ kw_319) (fun _ h9 => h9) rfl rfl (by decide +kernel) rfl rfl ⟨(0 : Int32), rfl, iv_w (iv_c (x := (0 : Int32)) (k := 0) (by decide)) (by decide)⟩ (fun _ _ => trivial) dX7_addPerson_12 (fun H locs hT hS oq12 he12 hk12 => ?_)
  refine lv_aload_n hx hb dX7_addPerson_15 rfl (lv_at hl 0 rfl) ?_
  refine lv_iconst (v := 0) hx hb dX7_addPerson_16 (by decide) ?_
  refine ti_put (ty := .int) hx hb hts inlX3 tyX3 tyX3_ok nmX3 hown hK hT hS hv8 rfl rfl rfl rfl 4 (by decide) (hts _ kw_320) (fun _ h9 => h9) rfl rfl (by decide +kernel) rfl rfl ⟨(0 : Int32), rfl, iv_w (iv_c (x := (0 : Int32)) (k := 0) (by decide)) (by decide)⟩ (fun _ _ => trivial) dX7_addPerson_17 (fun H locs hT hS oq17 he17 hk17 => ?_)
  refine lv_aload_n hx hb dX7_addPerson_20 rfl (lv_at hl 0 rfl) ?_
  refine lv_iconst (v := 0) hx hb dX7_addPerson_21 (by decide) ?_
  refine ti_put (ty := .int) hx hb hts inlX3 tyX3 tyX3_ok nmX3 hown hK hT hS hv8 rfl rfl rfl rfl 3 (by decide) (hts _ kw_321) (fun _ h9 => h9) rfl rfl (by decide +kernel) rfl rfl ⟨(0 : Int32), rfl, iv_w (iv_c (x := (0 : Int32)) (k := 0) (by decide)) (by decide)⟩ (fun _ _ => trivial) dX7_addPerson_22 (fun H locs hT hS oq22 he22 hk22 => ?_)
  refine lv_aload_n hx hb dX7_addPerson_25 rfl (lv_at hl 1 rfl) ?_
  refine lv_dup hx hb dX7_addPerson_26 rfl ?_
  refine ti_getE (ci := 7) (v := .int m0) hx hb hts inlX7 hown hK (((hm0.kept (oq12 _ (ne_r ha0 hv8 rfl))).kept (oq17 _ (ne_r ha0 hv8 rfl))).kept (oq22 _ (ne_r ha0 hv8 rfl))) rfl (by decide) (hts _ kw_86) (fun _ h9 => h9) dX7_addPerson_27 ?_
  refine lv_iconst (v := 1) hx hb dX7_addPerson_30 (by decide) ?_
  refine lv_iadd hx hb dX7_addPerson_31 ?_
  refine lv_topi (fun v31 e31 => ?_)
  have hv31 : iv v31 1 8 := by rw [e31]; exact iv_w (iv_add hmi0 (iv_c (x := (1 : Int32)) (k := 1) (by decide)) (by decide)) (by decide)
  have s31 : v31.toInt = m0.toInt + 1 := by rw [e31, iv_addE hmi0 (iv_c (x := (1 : Int32)) (k := 1) (by decide)) (by decide)]; rfl
  have kl1 : (1 : Int32).toInt = 1 := by decide
  refine ti_put (ty := .int) hx hb hts inlX7 tyX7 tyX7_ok nmX7 hown hK hT hS ha0 rfl rfl rfl rfl 1 (by decide) (hts _ kw_86) (fun _ h9 => h9) rfl rfl (by decide +kernel) rfl rfl ⟨v31, rfl, iv_w hv31 (by decide)⟩ (fun _ _ => trivial) dX7_addPerson_32 (fun H locs hT hS oq32 he32 hk32 => ?_)
  exact ret _ _ _ _ dX7_addPerson_35 (hT) hS
set_option maxHeartbeats 4000000 in
set_option maxRecDepth 100000 in
theorem t_X6_readSign (l : Launch) {D : va_G} {c0 : Nat → ClassId} {Y : Nat → Option Nat} {ν : Nat → Nat} {H : Heap} (hT : TI D vwCl (tysOf c0) (RTg ν) Y H) {a0 : Nat} (ha0 : Y a0 = some 6) : Met l yX6_readSign (wz yX6_readSign cX6_readSign 1 none) { frames := 2, cells := 0, slots := 0, locals := 81 } (TP D vwCl (tysOf c0) H [.ref a0]) (TQv (fun H' => TI D vwCl (tysOf c0) (RTg ν) Y H') Y [6, 7]) 0 0 (pW Y [6, 7]) := by
  refine Met.ofW (cc := cX6_readSign) (maxL := 1) (ret := none) (by decide) rfl ?_
  intro p e s m args below meth c s₁ B hml hv
  obtain ⟨rfl, rfl, hK⟩ := hv
  have hx := B.exec
  have hb := B.bytes
  have hr := B.returns
  have hts : ∀ w ∈ wq, w.before _ s = true := fun w h => atoms_spec (ws := wz yX6_readSign cX6_readSign 1 none) B.pre w (List.mem_cons_of_mem _ h)
  have hown : s.vm.findClass RX6 = some m.cls := findClass_of_methodNamed B.named
  have hlocks := B.notSynchronized
  obtain ⟨R, hR⟩ : ∃ R : Room, R = ({ frames := 2, cells := 0, slots := 0, locals := 81 } : Room) := ⟨_, rfl⟩
  rw [show (headSpec (wz yX6_readSign cX6_readSign 1 none) { frames := 2, cells := 0, slots := 0, locals := 81 }).room = R from hR.symm]
  refine ti_mv hx hb hr hlocks (fun Q ret => ?_)
  have hl := lv_entry [.ref a0] (n := 1) (Nat.le_of_ble_eq_true rfl)
  rw [lg_entry_eq]
  generalize (lg_sl [.ref a0] ++ List.replicate (1 - (lg_sl [.ref a0]).length) Slot.unset).toArray = ls at hl ⊢
  have hl : lv_has ls 1 [(0, .ref a0)] := hl
  refine ti_gen (P := fun H => TI D vwCl (tysOf c0) (RTg ν) Y H) (Y := Y) (ws := [6, 7]) hT (fun H locs hT hS => ?_)
  refine lv_aload_n hx hb dX6_readSign_0 rfl (lv_at hl 0 rfl) ?_
  refine ti_geti hx hb hts inlX6 hown hK hT ha0 rfl rfl rfl 10 (by decide) (hts _ kw_198) (fun _ h9 => h9) rfl dX6_readSign_1 (fun v1 hv1 hm1 => ?_)
  have J35 : ∀  (H : Heap) (locs : List Loc) (ls : Array Slot), TI D vwCl (tysOf c0) (RTg ν) Y H → va_S (pW Y [6, 7]) s.heap H locs → lv_has ls 1 [(0, .ref a0)] → W p l e R s m ([.ref a0] : List Value).toArray below meth c H locs 0 0 Q (F0 m 35 ls []) := by
    intro  H locs ls  hT hS hl
    refine lv_aload_n hx hb dX6_readSign_35 rfl (lv_at hl 0 rfl) ?_
    refine lv_iconst (v := 1) hx hb dX6_readSign_36 (by decide) ?_
    refine ti_callv (va_runV (As := [.int (1 : Int32)]) (rest := []) ⟨hx, hb, hml, hown, hts⟩ (t_X6_fail l hT ha0 (iv_w (iv_c (x := (1 : Int32)) (k := 1) (by decide)) (by decide))) (cwV 1 hts (good_V kw_274 kw_275 kw_276 kw_15 kw_277) rfl rfl rfl (by decide +kernel) ⟨by rw [hR]; decide, by rw [hR]; decide⟩) (ti_preV hK hT ha0 rfl rfl) rfl rfl hl.1 rfl (lv_room (Nat.le_of_ble_eq_true rfl)) dX6_readSign_37 ⟨Nat.zero_le _, Nat.zero_le _⟩) hS (pW_sub rfl) (fun H locs hB hS _ hk37 => ?_)
    obtain ⟨hT, ⟨w37_0, hw37_0, hwi37_0, hwp37_0⟩⟩ := hB
    exact ret _ _ _ _ dX6_readSign_40 (hT) hS
  refine lv_if_ne (tgt := 35) hx hb dX6_readSign_4 (by decide) (fun c4 => ?_) (fun c4 => ?_)
  · skip
    have kl0 : (0 : Int32).toInt = 0 := by decide
    have f4 := i_ne c4
    exact J35  _ _ _   hT hS (lv_sub hl [0] rfl)
  · skip
    have kl0 : (0 : Int32).toInt = 0 := by decide
    have f4 := i_eq c4
    have hv1_4l : iv v1 0 0 := iv_eql hv1 (iv_c (x := (0 : Int32)) (k := 0) (by decide)) c4 (by decide)
    refine lv_aload_n hx hb dX6_readSign_7 rfl (lv_at hl 0 rfl) ?_
    refine ti_geti hx hb hts inlX6 hown hK hT ha0 rfl rfl rfl 3 (by decide) (hts _ kw_199) (fun _ h9 => h9) rfl dX6_readSign_8 (fun v8 hv8 hm8 => ?_)
    refine lv_iconst (v := 3) hx hb dX6_readSign_11 (by decide) ?_
    refine lv_icmp_ne (tgt := 35) hx hb dX6_readSign_12 (by decide) (fun c12 => ?_) (fun c12 => ?_)
    · skip
      have kl3 : (3 : Int32).toInt = 3 := by decide
      have f12 := i_ne c12
      exact J35  _ _ _   hT hS (lv_sub hl [0] rfl)
    · skip
      have kl3 : (3 : Int32).toInt = 3 := by decide
      have f12 := i_eq c12
      have hv8_12l : iv v8 3 3 := iv_eql hv8 (iv_c (x := (3 : Int32)) (k := 3) (by decide)) c12 (by decide)
      refine lv_aload_n hx hb dX6_readSign_15 rfl (lv_at hl 0 rfl) ?_
      refine ti_getr hx hb hts inlX6 hown hK hT ha0 rfl rfl rfl 2 (by decide) (hts _ kw_50) (fun _ h9 => h9) rfl dX6_readSign_16 (fun v16 hv16 hm16 => ?_)
      refine lv_dup hx hb dX6_readSign_19 rfl ?_
      refine ti_geti hx hb hts inlX7 hown hK hT hv16 rfl rfl rfl 2 (by decide) (hts _ kw_200) (fun _ h9 => h9) rfl dX6_readSign_20 (fun v20 hv20 hm20 => ?_)
      refine lv_iconst (v := 1) hx hb dX6_readSign_23 (by decide) ?_
      refine lv_iadd hx hb dX6_readSign_24 ?_
      refine lv_topi (fun v24 e24 => ?_)
      have hv24 : iv v24 (-2147483648) 2147483647 := iv_top _
      refine ti_put (ty := .int) hx hb hts inlX7 tyX7 tyX7_ok nmX7 hown hK hT hS hv16 rfl rfl rfl rfl 2 (by decide) (hts _ kw_200) (fun _ h9 => h9) rfl rfl (by decide +kernel) rfl rfl ⟨v24, rfl, iv_w hv24 (by decide)⟩ (fun _ _ => trivial) dX6_readSign_25 (fun H locs hT hS oq25 he25 hk25 => ?_)
      refine lv_aload_n hx hb dX6_readSign_28 rfl (lv_at hl 0 rfl) ?_
      refine ti_callv (va_runV (As := []) (rest := []) ⟨hx, hb, hml, hown, hts⟩ (t_X6_advance l hT ha0 (hm1.kept (oq25 _ (ne_r ha0 hv16 rfl))) (iv_w hv1_4l (by decide))) (cwV 0 hts (good_V kw_203 kw_204 kw_205 kw_15 kw_206) rfl rfl rfl (by decide +kernel) ⟨by rw [hR]; decide, by rw [hR]; decide⟩) (ti_preV hK hT ha0 rfl rfl) rfl rfl hl.1 rfl (lv_room (Nat.le_of_ble_eq_true rfl)) dX6_readSign_29 ⟨Nat.zero_le _, Nat.zero_le _⟩) hS (pW_sub rfl) (fun H locs hB hS _ hk29 => ?_)
      obtain ⟨hT, ⟨w29_0, hw29_0, hwi29_0, hwp29_0⟩⟩ := hB
      refine lv_goto (tgt := 40) hx hb dX6_readSign_32 (by decide) ?_
      exact ret _ _ _ _ dX6_readSign_40 (hT) hS
set_option maxHeartbeats 4000000 in
set_option maxRecDepth 100000 in
theorem t_X7_clear (l : Launch) {D : va_G} {c0 : Nat → ClassId} {Y : Nat → Option Nat} {ν : Nat → Nat} {H : Heap} (hT : TI D vwCl (tysOf c0) (RTg ν) Y H) {a0 : Nat} (ha0 : Y a0 = some 7) : Met l yX7_clear (wz yX7_clear cX7_clear 2 none) { frames := 1, cells := 0, slots := 0, locals := 20 } (TP D vwCl (tysOf c0) H [.ref a0]) (TQv (fun H' => TI D vwCl (tysOf c0) (RTg ν) Y H') Y [0, 1, 7, 22]) 0 0 (pW Y [0, 1, 7, 22]) := by
  refine Met.ofW (cc := cX7_clear) (maxL := 2) (ret := none) (by decide) rfl ?_
  intro p e s m args below meth c s₁ B hml hv
  obtain ⟨rfl, rfl, hK⟩ := hv
  have hx := B.exec
  have hb := B.bytes
  have hr := B.returns
  have hts : ∀ w ∈ wq, w.before _ s = true := fun w h => atoms_spec (ws := wz yX7_clear cX7_clear 2 none) B.pre w (List.mem_cons_of_mem _ h)
  have hown : s.vm.findClass RX7 = some m.cls := findClass_of_methodNamed B.named
  have hlocks := B.notSynchronized
  obtain ⟨R, hR⟩ : ∃ R : Room, R = ({ frames := 1, cells := 0, slots := 0, locals := 20 } : Room) := ⟨_, rfl⟩
  rw [show (headSpec (wz yX7_clear cX7_clear 2 none) { frames := 1, cells := 0, slots := 0, locals := 20 }).room = R from hR.symm]
  refine ti_mv hx hb hr hlocks (fun Q ret => ?_)
  have hl := lv_entry [.ref a0] (n := 2) (Nat.le_of_ble_eq_true rfl)
  rw [lg_entry_eq]
  generalize (lg_sl [.ref a0] ++ List.replicate (2 - (lg_sl [.ref a0]).length) Slot.unset).toArray = ls at hl ⊢
  have hl : lv_has ls 2 [(0, .ref a0)] := hl
  refine ti_gen (P := fun H => TI D vwCl (tysOf c0) (RTg ν) Y H) (Y := Y) (ws := [0, 1, 7, 22]) hT (fun H locs hT hS => ?_)
  refine lv_aload_n hx hb dX7_clear_0 rfl (lv_at hl 0 rfl) ?_
  refine lv_iconst (v := 0) hx hb dX7_clear_1 (by decide) ?_
  refine ti_put (ty := .int) hx hb hts inlX7 tyX7 tyX7_ok nmX7 hown hK hT hS ha0 rfl rfl rfl rfl 0 (by decide) (hts _ kw_85) (fun _ h9 => h9) rfl rfl (by decide +kernel) rfl rfl ⟨(0 : Int32), rfl, iv_w (iv_c (x := (0 : Int32)) (k := 0) (by decide)) (by decide)⟩ (fun _ _ => trivial) dX7_clear_2 (fun H locs hT hS oq2 he2 hk2 => ?_)
  refine lv_aload_n hx hb dX7_clear_5 rfl (lv_at hl 0 rfl) ?_
  refine lv_iconst (v := 0) hx hb dX7_clear_6 (by decide) ?_
  refine ti_put (ty := .int) hx hb hts inlX7 tyX7 tyX7_ok nmX7 hown hK hT hS ha0 rfl rfl rfl rfl 1 (by decide) (hts _ kw_86) (fun _ h9 => h9) rfl rfl (by decide +kernel) rfl rfl ⟨(0 : Int32), rfl, iv_w (iv_c (x := (0 : Int32)) (k := 0) (by decide)) (by decide)⟩ (fun _ _ => trivial) dX7_clear_7 (fun H locs hT hS oq7 he7 hk7 => ?_)
  refine lv_aload_n hx hb dX7_clear_10 rfl (lv_at hl 0 rfl) ?_
  refine lv_iconst (v := 0) hx hb dX7_clear_11 (by decide) ?_
  refine ti_put (ty := .int) hx hb hts inlX7 tyX7 tyX7_ok nmX7 hown hK hT hS ha0 rfl rfl rfl rfl 2 (by decide) (hts _ kw_87) (fun _ h9 => h9) rfl rfl (by decide +kernel) rfl rfl ⟨(0 : Int32), rfl, iv_w (iv_c (x := (0 : Int32)) (k := 0) (by decide)) (by decide)⟩ (fun _ _ => trivial) dX7_clear_12 (fun H locs hT hS oq12 he12 hk12 => ?_)
  refine lv_aload_n hx hb dX7_clear_15 rfl (lv_at hl 0 rfl) ?_
  refine lv_iconst (v := 0) hx hb dX7_clear_16 (by decide) ?_
  refine ti_put (ty := .int) hx hb hts inlX7 tyX7 tyX7_ok nmX7 hown hK hT hS ha0 rfl rfl rfl rfl 3 (by decide) (hts _ kw_88) (fun _ h9 => h9) rfl rfl (by decide +kernel) rfl rfl ⟨(0 : Int32), rfl, iv_w (iv_c (x := (0 : Int32)) (k := 0) (by decide)) (by decide)⟩ (fun _ _ => trivial) dX7_clear_17 (fun H locs hT hS oq17 he17 hk17 => ?_)
  refine lv_aload_n hx hb dX7_clear_20 rfl (lv_at hl 0 rfl) ?_
  refine lv_iconst (v := 0) hx hb dX7_clear_21 (by decide) ?_
  refine ti_put (ty := .int) hx hb hts inlX7 tyX7 tyX7_ok nmX7 hown hK hT hS ha0 rfl rfl rfl rfl 4 (by decide) (hts _ kw_89) (fun _ h9 => h9) rfl rfl (by decide +kernel) rfl rfl ⟨(0 : Int32), rfl, iv_w (iv_c (x := (0 : Int32)) (k := 0) (by decide)) (by decide)⟩ (fun _ _ => trivial) dX7_clear_22 (fun H locs hT hS oq22 he22 hk22 => ?_)
  refine lv_aload_n hx hb dX7_clear_25 rfl (lv_at hl 0 rfl) ?_
  refine lv_lconst (v := 0) hx hb dX7_clear_26 (by decide) ?_
  have kj0 : (0 : Int64).toInt = 0 := by decide
  refine ti_put (ty := .long) hx hb hts inlX7 tyX7 tyX7_ok nmX7 hown hK hT hS ha0 rfl rfl rfl rfl 5 (by decide) (hts _ kw_90) (fun _ h9 => h9) rfl rfl (by decide +kernel) rfl rfl ⟨(0 : Int64), rfl⟩ (fun _ _ => trivial) dX7_clear_27 (fun H locs hT hS oq27 he27 hk27 => ?_)
  refine lv_aload_n hx hb dX7_clear_30 rfl (lv_at hl 0 rfl) ?_
  refine ti_getr hx hb hts inlX7 hown hK hT ha0 rfl rfl rfl 6 (by decide) (hts _ kw_59) (fun _ h9 => h9) rfl dX7_clear_31 (fun v31 hv31 hm31 => ?_)
  refine ti_callv (va_runV (As := []) (rest := []) ⟨hx, hb, hml, hown, hts⟩ (t_X0_clear l hT hv31) (cwV 0 hts (good_V kw_92 kw_93 kw_94 kw_58 kw_95) rfl rfl rfl (by decide +kernel) ⟨by rw [hR]; decide, by rw [hR]; decide⟩) (ti_preV hK hT hv31 rfl rfl) rfl rfl hl.1 rfl (lv_room (Nat.le_of_ble_eq_true rfl)) dX7_clear_34 ⟨Nat.zero_le _, Nat.zero_le _⟩) hS (pW_sub rfl) (fun H locs hB hS _ hk34 => ?_)
  have hT := hB
  refine lv_aload_n hx hb dX7_clear_37 rfl (lv_at hl 0 rfl) ?_
  refine ti_getr hx hb hts inlX7 hown hK hT ha0 rfl rfl rfl 7 (by decide) (hts _ kw_63) (fun _ h9 => h9) rfl dX7_clear_38 (fun v38 hv38 hm38 => ?_)
  refine lv_iconst (v := 0) hx hb dX7_clear_41 (by decide) ?_
  refine ti_put (ty := .int) hx hb hts inlX1 tyX1 tyX1_ok nmX1 hown hK hT hS hv38 rfl rfl rfl rfl 0 (by decide) (hts _ kw_91) (fun _ h9 => h9) rfl rfl (by decide +kernel) rfl rfl ⟨(0 : Int32), rfl, iv_w (iv_c (x := (0 : Int32)) (k := 0) (by decide)) (by decide)⟩ (fun _ _ => trivial) dX7_clear_42 (fun H locs hT hS oq42 he42 hk42 => ?_)
  refine lv_iconst (v := 0) hx hb dX7_clear_45 (by decide) ?_
  have J47 : ∀ (n : Nat) (j47_L1 : Int32) (H : Heap) (locs : List Loc) (ls : Array Slot), (64 - j47_L1.toInt).toNat < n → iv j47_L1 0 64 → TI D vwCl (tysOf c0) (RTg ν) Y H → va_S (pW Y [0, 1, 7, 22]) s.heap H locs → lv_has ls 2 [(0, .ref a0), (1, .int j47_L1)] → W p l e R s m ([.ref a0] : List Value).toArray below meth c H locs 0 0 Q (F0 m 47 ls []) := by
    intro n
    induction n with
    | zero => intro j47_L1 H locs ls hms; exact absurd hms (Nat.not_lt_zero _)
    | succ n ih47 =>
      intro j47_L1 H locs ls hms47 hj47_L1 hT hS hl
      refine lv_iload_n hx hb dX7_clear_47 rfl (lv_at hl 1 rfl) ?_
      refine lv_aload_n hx hb dX7_clear_48 rfl (lv_at hl 0 rfl) ?_
      refine ti_getr hx hb hts inlX7 hown hK hT ha0 rfl rfl rfl 9 (by decide) (hts _ kw_66) (fun _ h9 => h9) rfl dX7_clear_49 (fun v49 hv49 hm49 => ?_)
      refine ti_alen (v := 64) hx hb (aT0 hK) hT hv49 rfl (by decide) dX7_clear_52 ?_
      refine lv_icmp_ge (tgt := 69) hx hb dX7_clear_53 (by decide) (fun c53 => ?_) (fun c53 => ?_)
      · skip
        have kl64 : (64 : Int32).toInt = 64 := by decide
        have f53 := i_le c53
        have hj47_L1_53r : iv j47_L1 64 64 := iv_ler (iv_c (x := (64 : Int32)) (k := 64) (by decide)) hj47_L1 c53 (by decide)
        exact ret _ _ _ _ dX7_clear_69 (hT) hS
      · skip
        have kl64 : (64 : Int32).toInt = 64 := by decide
        have f53 := i_nle c53
        have hj47_L1_53l : iv j47_L1 0 63 := iv_ltl hj47_L1 (iv_c (x := (64 : Int32)) (k := 64) (by decide)) (Int32.not_le.mp c53) (by decide)
        refine lv_aload_n hx hb dX7_clear_56 rfl (lv_at hl 0 rfl) ?_
        refine ti_getE (ci := 7) (v := .ref v49) hx hb hts inlX7 hown hK hm49 rfl (by decide) (hts _ kw_66) (fun _ h9 => h9) dX7_clear_57 ?_
        refine lv_iload_n hx hb dX7_clear_60 rfl (lv_at hl 1 rfl) ?_
        refine lv_iconst (v := 1) hx hb dX7_clear_61 (by decide) ?_
        refine ti_iast hx hb (aT0 hK) hT hS hv49 rfl rfl hj47_L1_53l (by decide) (fun _ _ _ => ⟨_, _, rfl, by decide, by decide⟩) (iv_c (x := (1 : Int32)) (k := 1) (by decide)) (fun _ _ => trivial) dX7_clear_62 (fun H locs hT hS oq62 he62 hk62 => ?_)
        obtain ⟨v63, e63⟩ : ∃ y : Int32, y = j47_L1 + 1 := ⟨_, rfl⟩
        have hv63 : iv v63 1 64 := by rw [e63]; exact iv_w (iv_add hj47_L1_53l (iv_c (x := (1 : Int32)) (k := 1) (by decide)) (by decide)) (by decide)
        have s63 : v63.toInt = j47_L1.toInt + 1 := by rw [e63, iv_addE hj47_L1_53l (iv_c (x := (1 : Int32)) (k := 1) (by decide)) (by decide)]; rfl
        refine lv_iinc (v := v63) (lv' := [(1, .int v63), (0, .ref a0)]) hx hb dX7_clear_63 hl (k := 1) rfl (by rw [e63]; rfl) (by decide) rfl (fun ls hl => ?_)
        refine lv_goto (tgt := 47) hx hb dX7_clear_66 (by decide) ?_
        exact ih47 v63 _ _ _ (ms_up hms47 (by have := s63; omega) (iv_w (c := 1) (d := 64) hv63 (by decide)).2) (iv_w hv63 (by decide)) hT hS (lv_sub hl [1, 0] rfl)
  refine lv_istore_n (lv' := [(1, .int (0 : Int32)), (0, .ref a0)]) hx hb dX7_clear_46 rfl hl (by decide) rfl (fun ls hl => ?_)
  exact J47 _ (0 : Int32) _ _ _ (Nat.lt_succ_self _) (iv_w (iv_c (x := (0 : Int32)) (k := 0) (by decide)) (by decide)) hT hS (lv_sub hl [1, 0] rfl)
set_option maxHeartbeats 4000000 in
set_option maxRecDepth 100000 in
theorem t_X7_copyFrom (l : Launch) {D : va_G} {c0 : Nat → ClassId} {Y : Nat → Option Nat} {ν : Nat → Nat} {H : Heap} (hT : TI D vwCl (tysOf c0) (RTg ν) Y H) {a0 : Nat} (ha0 : Y a0 = some 7) {a1 : Nat} (ha1 : Y a1 = some 7) : Met l yX7_copyFrom (wz yX7_copyFrom cX7_copyFrom 3 none) { frames := 2, cells := 0, slots := 0, locals := 81 } (TP D vwCl (tysOf c0) H [.ref a0, .ref a1]) (TQv (fun H' => TI D vwCl (tysOf c0) (RTg ν) Y H') Y [0, 1, 3, 7, 20, 22, 28]) 0 0 (pW Y [0, 1, 3, 7, 20, 22, 28]) := by
  refine Met.ofW (cc := cX7_copyFrom) (maxL := 3) (ret := none) (by decide) rfl ?_
  intro p e s m args below meth c s₁ B hml hv
  obtain ⟨rfl, rfl, hK⟩ := hv
  have hx := B.exec
  have hb := B.bytes
  have hr := B.returns
  have hts : ∀ w ∈ wq, w.before _ s = true := fun w h => atoms_spec (ws := wz yX7_copyFrom cX7_copyFrom 3 none) B.pre w (List.mem_cons_of_mem _ h)
  have hown : s.vm.findClass RX7 = some m.cls := findClass_of_methodNamed B.named
  have hlocks := B.notSynchronized
  obtain ⟨R, hR⟩ : ∃ R : Room, R = ({ frames := 2, cells := 0, slots := 0, locals := 81 } : Room) := ⟨_, rfl⟩
  rw [show (headSpec (wz yX7_copyFrom cX7_copyFrom 3 none) { frames := 2, cells := 0, slots := 0, locals := 81 }).room = R from hR.symm]
  refine ti_mv hx hb hr hlocks (fun Q ret => ?_)
  have hl := lv_entry [.ref a0, .ref a1] (n := 3) (Nat.le_of_ble_eq_true rfl)
  rw [lg_entry_eq]
  generalize (lg_sl [.ref a0, .ref a1] ++ List.replicate (3 - (lg_sl [.ref a0, .ref a1]).length) Slot.unset).toArray = ls at hl ⊢
  have hl : lv_has ls 3 [(0, .ref a0), (1, .ref a1)] := hl
  refine ti_gen (P := fun H => TI D vwCl (tysOf c0) (RTg ν) Y H) (Y := Y) (ws := [0, 1, 3, 7, 20, 22, 28]) hT (fun H locs hT hS => ?_)
  refine lv_aload_n hx hb dX7_copyFrom_0 rfl (lv_at hl 0 rfl) ?_
  refine lv_aload_n hx hb dX7_copyFrom_1 rfl (lv_at hl 1 rfl) ?_
  refine ti_geti hx hb hts inlX7 hown hK hT ha1 rfl rfl rfl 0 (by decide) (hts _ kw_85) (fun _ h9 => h9) rfl dX7_copyFrom_2 (fun v2 hv2 hm2 => ?_)
  refine ti_put (ty := .int) hx hb hts inlX7 tyX7 tyX7_ok nmX7 hown hK hT hS ha0 rfl rfl rfl rfl 0 (by decide) (hts _ kw_85) (fun _ h9 => h9) rfl rfl (by decide +kernel) rfl rfl ⟨v2, rfl, iv_w hv2 (by decide)⟩ (fun _ _ => trivial) dX7_copyFrom_5 (fun H locs hT hS oq5 he5 hk5 => ?_)
  refine lv_aload_n hx hb dX7_copyFrom_8 rfl (lv_at hl 0 rfl) ?_
  refine lv_aload_n hx hb dX7_copyFrom_9 rfl (lv_at hl 1 rfl) ?_
  refine ti_geti hx hb hts inlX7 hown hK hT ha1 rfl rfl rfl 1 (by decide) (hts _ kw_86) (fun _ h9 => h9) rfl dX7_copyFrom_10 (fun v10 hv10 hm10 => ?_)
  refine ti_put (ty := .int) hx hb hts inlX7 tyX7 tyX7_ok nmX7 hown hK hT hS ha0 rfl rfl rfl rfl 1 (by decide) (hts _ kw_86) (fun _ h9 => h9) rfl rfl (by decide +kernel) rfl rfl ⟨v10, rfl, iv_w hv10 (by decide)⟩ (fun _ _ => trivial) dX7_copyFrom_13 (fun H locs hT hS oq13 he13 hk13 => ?_)
  refine lv_aload_n hx hb dX7_copyFrom_16 rfl (lv_at hl 0 rfl) ?_
  refine lv_aload_n hx hb dX7_copyFrom_17 rfl (lv_at hl 1 rfl) ?_
  refine ti_geti hx hb hts inlX7 hown hK hT ha1 rfl rfl rfl 2 (by decide) (hts _ kw_87) (fun _ h9 => h9) rfl dX7_copyFrom_18 (fun v18 hv18 hm18 => ?_)
  refine ti_put (ty := .int) hx hb hts inlX7 tyX7 tyX7_ok nmX7 hown hK hT hS ha0 rfl rfl rfl rfl 2 (by decide) (hts _ kw_87) (fun _ h9 => h9) rfl rfl (by decide +kernel) rfl rfl ⟨v18, rfl, iv_w hv18 (by decide)⟩ (fun _ _ => trivial) dX7_copyFrom_21 (fun H locs hT hS oq21 he21 hk21 => ?_)
  refine lv_aload_n hx hb dX7_copyFrom_24 rfl (lv_at hl 0 rfl) ?_
  refine lv_aload_n hx hb dX7_copyFrom_25 rfl (lv_at hl 1 rfl) ?_
  refine ti_geti hx hb hts inlX7 hown hK hT ha1 rfl rfl rfl 3 (by decide) (hts _ kw_88) (fun _ h9 => h9) rfl dX7_copyFrom_26 (fun v26 hv26 hm26 => ?_)
  refine ti_put (ty := .int) hx hb hts inlX7 tyX7 tyX7_ok nmX7 hown hK hT hS ha0 rfl rfl rfl rfl 3 (by decide) (hts _ kw_88) (fun _ h9 => h9) rfl rfl (by decide +kernel) rfl rfl ⟨v26, rfl, iv_w hv26 (by decide)⟩ (fun _ _ => trivial) dX7_copyFrom_29 (fun H locs hT hS oq29 he29 hk29 => ?_)
  refine lv_aload_n hx hb dX7_copyFrom_32 rfl (lv_at hl 0 rfl) ?_
  refine lv_aload_n hx hb dX7_copyFrom_33 rfl (lv_at hl 1 rfl) ?_
  refine ti_geti hx hb hts inlX7 hown hK hT ha1 rfl rfl rfl 4 (by decide) (hts _ kw_89) (fun _ h9 => h9) rfl dX7_copyFrom_34 (fun v34 hv34 hm34 => ?_)
  refine ti_put (ty := .int) hx hb hts inlX7 tyX7 tyX7_ok nmX7 hown hK hT hS ha0 rfl rfl rfl rfl 4 (by decide) (hts _ kw_89) (fun _ h9 => h9) rfl rfl (by decide +kernel) rfl rfl ⟨v34, rfl, iv_w hv34 (by decide)⟩ (fun _ _ => trivial) dX7_copyFrom_37 (fun H locs hT hS oq37 he37 hk37 => ?_)
  refine lv_aload_n hx hb dX7_copyFrom_40 rfl (lv_at hl 0 rfl) ?_
  refine lv_aload_n hx hb dX7_copyFrom_41 rfl (lv_at hl 1 rfl) ?_
  refine ti_getl hx hb hts inlX7 hown hK hT ha1 rfl rfl rfl 5 (by decide) (hts _ kw_90) (fun _ h9 => h9) rfl dX7_copyFrom_42 (fun v42 hm42 => ?_)
  refine ti_put (ty := .long) hx hb hts inlX7 tyX7 tyX7_ok nmX7 hown hK hT hS ha0 rfl rfl rfl rfl 5 (by decide) (hts _ kw_90) (fun _ h9 => h9) rfl rfl (by decide +kernel) rfl rfl ⟨v42, rfl⟩ (fun _ _ => trivial) dX7_copyFrom_45 (fun H locs hT hS oq45 he45 hk45 => ?_)
  refine lv_aload_n hx hb dX7_copyFrom_48 rfl (lv_at hl 0 rfl) ?_
  refine ti_getr hx hb hts inlX7 hown hK hT ha0 rfl rfl rfl 6 (by decide) (hts _ kw_59) (fun _ h9 => h9) rfl dX7_copyFrom_49 (fun v49 hv49 hm49 => ?_)
  refine lv_aload_n hx hb dX7_copyFrom_52 rfl (lv_at hl 1 rfl) ?_
  refine ti_getr hx hb hts inlX7 hown hK hT ha1 rfl rfl rfl 6 (by decide) (hts _ kw_59) (fun _ h9 => h9) rfl dX7_copyFrom_53 (fun v53 hv53 hm53 => ?_)
  refine ti_callv (va_runV (As := [.ref v53]) (rest := []) ⟨hx, hb, hml, hown, hts⟩ (t_X0_copyFrom l hT hv49 hv53) (cwV 1 hts (good_V kw_350 kw_351 kw_352 kw_58 kw_353) rfl rfl rfl (by decide +kernel) ⟨by rw [hR]; decide, by rw [hR]; decide⟩) (ti_preV hK hT hv49 rfl rfl) rfl rfl hl.1 rfl (lv_room (Nat.le_of_ble_eq_true rfl)) dX7_copyFrom_56 ⟨Nat.zero_le _, Nat.zero_le _⟩) hS (pW_sub rfl) (fun H locs hB hS _ hk56 => ?_)
  have hT := hB
  refine lv_aload_n hx hb dX7_copyFrom_59 rfl (lv_at hl 0 rfl) ?_
  refine ti_getr hx hb hts inlX7 hown hK hT ha0 rfl rfl rfl 7 (by decide) (hts _ kw_63) (fun _ h9 => h9) rfl dX7_copyFrom_60 (fun v60 hv60 hm60 => ?_)
  refine lv_aload_n hx hb dX7_copyFrom_63 rfl (lv_at hl 1 rfl) ?_
  refine ti_getr hx hb hts inlX7 hown hK hT ha1 rfl rfl rfl 7 (by decide) (hts _ kw_63) (fun _ h9 => h9) rfl dX7_copyFrom_64 (fun v64 hv64 hm64 => ?_)
  refine ti_callv (va_runV (As := [.ref v64]) (rest := []) ⟨hx, hb, hml, hown, hts⟩ (t_X1_copyFrom l hT hv60 hv64) (cwV 1 hts (good_V kw_354 kw_355 kw_356 kw_62 kw_357) rfl rfl rfl (by decide +kernel) ⟨by rw [hR]; decide, by rw [hR]; decide⟩) (ti_preV hK hT hv60 rfl rfl) rfl rfl hl.1 rfl (lv_room (Nat.le_of_ble_eq_true rfl)) dX7_copyFrom_67 ⟨Nat.zero_le _, Nat.zero_le _⟩) hS (pW_sub rfl) (fun H locs hB hS _ hk67 => ?_)
  have hT := hB
  refine lv_iconst (v := 0) hx hb dX7_copyFrom_70 (by decide) ?_
  have J72 : ∀ (n : Nat) (j72_L2 : Int32) (H : Heap) (locs : List Loc) (ls : Array Slot), (8 - j72_L2.toInt).toNat < n → iv j72_L2 0 8 → TI D vwCl (tysOf c0) (RTg ν) Y H → va_S (pW Y [0, 1, 3, 7, 20, 22, 28]) s.heap H locs → lv_has ls 3 [(0, .ref a0), (1, .ref a1), (2, .int j72_L2)] → W p l e R s m ([.ref a0, .ref a1] : List Value).toArray below meth c H locs 0 0 Q (F0 m 72 ls []) := by
    intro n
    induction n with
    | zero => intro j72_L2 H locs ls hms; exact absurd hms (Nat.not_lt_zero _)
    | succ n ih72 =>
      intro j72_L2 H locs ls hms72 hj72_L2 hT hS hl
      refine lv_iload_n hx hb dX7_copyFrom_72 rfl (lv_at hl 2 rfl) ?_
      refine lv_bipush (v := 8) hx hb dX7_copyFrom_73 (by decide) ?_
      refine lv_icmp_ge (tgt := 99) hx hb dX7_copyFrom_75 (by decide) (fun c75 => ?_) (fun c75 => ?_)
      · skip
        have kl8 : (8 : Int32).toInt = 8 := by decide
        have f75 := i_le c75
        have hj72_L2_75r : iv j72_L2 8 8 := iv_ler (iv_c (x := (8 : Int32)) (k := 8) (by decide)) hj72_L2 c75 (by decide)
        refine lv_aload_n hx hb dX7_copyFrom_99 rfl (lv_at hl 1 rfl) ?_
        refine ti_getr hx hb hts inlX7 hown hK hT ha1 rfl rfl rfl 9 (by decide) (hts _ kw_66) (fun _ h9 => h9) rfl dX7_copyFrom_100 (fun v100 hv100 hm100 => ?_)
        refine lv_iconst (v := 0) hx hb dX7_copyFrom_103 (by decide) ?_
        refine lv_aload_n hx hb dX7_copyFrom_104 rfl (lv_at hl 0 rfl) ?_
        refine ti_getr hx hb hts inlX7 hown hK hT ha0 rfl rfl rfl 9 (by decide) (hts _ kw_66) (fun _ h9 => h9) rfl dX7_copyFrom_105 (fun v105 hv105 hm105 => ?_)
        refine lv_iconst (v := 0) hx hb dX7_copyFrom_108 (by decide) ?_
        refine lv_aload_n hx hb dX7_copyFrom_109 rfl (lv_at hl 0 rfl) ?_
        refine ti_getE (ci := 7) (v := .ref v105) hx hb hts inlX7 hown hK hm105 rfl (by decide) (hts _ kw_66) (fun _ h9 => h9) dX7_copyFrom_110 ?_
        refine ti_alen (v := 64) hx hb (aT0 hK) hT hv105 rfl (by decide) dX7_copyFrom_113 ?_
        refine ti_copyi hx hb (by rw [hml]; exact hl.1.symm) hown (hts _ kw_346) (hts _ kw_347) (hts _ kw_348) (hts _ kw_349) hK hT hS hv100 hv105 rfl rfl (fun _ => trivial) (fun _ _ => ⟨_, _, rfl⟩) (fun _ _ => rfl) (by decide) (by rw [hR]; decide) (by rw [hR]; exact Nat.le_of_ble_eq_true rfl) dX7_copyFrom_114 (fun H locs hT hS => ?_)
        exact ret _ _ _ _ dX7_copyFrom_117 (hT) hS
      · skip
        have kl8 : (8 : Int32).toInt = 8 := by decide
        have f75 := i_nle c75
        have hj72_L2_75l : iv j72_L2 0 7 := iv_ltl hj72_L2 (iv_c (x := (8 : Int32)) (k := 8) (by decide)) (Int32.not_le.mp c75) (by decide)
        refine lv_aload_n hx hb dX7_copyFrom_78 rfl (lv_at hl 0 rfl) ?_
        refine ti_getr hx hb hts inlX7 hown hK hT ha0 rfl rfl rfl 8 (by decide) (hts _ kw_65) (fun _ h9 => h9) rfl dX7_copyFrom_79 (fun v79 hv79 hm79 => ?_)
        refine lv_iload_n hx hb dX7_copyFrom_82 rfl (lv_at hl 2 rfl) ?_
        refine ti_aald hx hb (aT6 hK) hT hv79 rfl hj72_L2_75l (by decide) (fun _ _ _ => rfl) dX7_copyFrom_83 (fun v83 hv83 => ?_)
        refine lv_aload_n hx hb dX7_copyFrom_84 rfl (lv_at hl 1 rfl) ?_
        refine ti_getr hx hb hts inlX7 hown hK hT ha1 rfl rfl rfl 8 (by decide) (hts _ kw_65) (fun _ h9 => h9) rfl dX7_copyFrom_85 (fun v85 hv85 hm85 => ?_)
        refine lv_iload_n hx hb dX7_copyFrom_88 rfl (lv_at hl 2 rfl) ?_
        refine ti_aald hx hb (aT6 hK) hT hv85 rfl hj72_L2_75l (by decide) (fun _ _ _ => rfl) dX7_copyFrom_89 (fun v89 hv89 => ?_)
        refine ti_callv (va_runV (As := [.ref v89]) (rest := []) ⟨hx, hb, hml, hown, hts⟩ (t_X3_copyFrom l hT hv83 hv89) (cwV 1 hts (good_V kw_360 kw_361 kw_362 kw_68 kw_363) rfl rfl rfl (by decide +kernel) ⟨by rw [hR]; decide, by rw [hR]; decide⟩) (ti_preV hK hT hv83 rfl rfl) rfl rfl hl.1 rfl (lv_room (Nat.le_of_ble_eq_true rfl)) dX7_copyFrom_90 ⟨Nat.zero_le _, Nat.zero_le _⟩) hS (pW_sub rfl) (fun H locs hB hS _ hk90 => ?_)
        have hT := hB
        obtain ⟨v93, e93⟩ : ∃ y : Int32, y = j72_L2 + 1 := ⟨_, rfl⟩
        have hv93 : iv v93 1 8 := by rw [e93]; exact iv_w (iv_add hj72_L2_75l (iv_c (x := (1 : Int32)) (k := 1) (by decide)) (by decide)) (by decide)
        have s93 : v93.toInt = j72_L2.toInt + 1 := by rw [e93, iv_addE hj72_L2_75l (iv_c (x := (1 : Int32)) (k := 1) (by decide)) (by decide)]; rfl
        refine lv_iinc (v := v93) (lv' := [(2, .int v93), (0, .ref a0), (1, .ref a1)]) hx hb dX7_copyFrom_93 hl (k := 2) rfl (by rw [e93]; rfl) (by decide) rfl (fun ls hl => ?_)
        refine lv_goto (tgt := 72) hx hb dX7_copyFrom_96 (by decide) ?_
        exact ih72 v93 _ _ _ (ms_up hms72 (by have := s93; omega) (iv_w (c := 1) (d := 8) hv93 (by decide)).2) (iv_w hv93 (by decide)) hT hS (lv_sub hl [1, 2, 0] rfl)
  refine lv_istore_n (lv' := [(2, .int (0 : Int32)), (0, .ref a0), (1, .ref a1)]) hx hb dX7_copyFrom_71 rfl hl (by decide) rfl (fun ls hl => ?_)
  exact J72 _ (0 : Int32) _ _ _ (Nat.lt_succ_self _) (iv_w (iv_c (x := (0 : Int32)) (k := 0) (by decide)) (by decide)) hT hS (lv_sub hl [1, 2, 0] rfl)
set_option maxHeartbeats 4000000 in
set_option maxRecDepth 100000 in
theorem t_X7_change (l : Launch) {D : va_G} {c0 : Nat → ClassId} {Y : Nat → Option Nat} {ν : Nat → Nat} {H : Heap} (hT : TI D vwCl (tysOf c0) (RTg ν) Y H) {a0 : Nat} (ha0 : Y a0 = some 7) {x1 : Int32} (hx1 : iv x1 0 7) {x2 : Int32} (hx2 : iv x2 (-2147483648) 2147483647) : Met l yX7_change (wz yX7_change cX7_change 3 none) { frames := 1, cells := 0, slots := 0, locals := 23 } (TP D vwCl (tysOf c0) H [.ref a0, .int x1, .int x2]) (TQv (fun H' => TI D vwCl (tysOf c0) (RTg ν) Y H') Y [3]) 0 0 (pW Y [3]) := by
  refine Met.ofW (cc := cX7_change) (maxL := 3) (ret := none) (by decide) rfl ?_
  intro p e s m args below meth c s₁ B hml hv
  obtain ⟨rfl, rfl, hK⟩ := hv
  have hx := B.exec
  have hb := B.bytes
  have hr := B.returns
  have hts : ∀ w ∈ wq, w.before _ s = true := fun w h => atoms_spec (ws := wz yX7_change cX7_change 3 none) B.pre w (List.mem_cons_of_mem _ h)
  have hown : s.vm.findClass RX7 = some m.cls := findClass_of_methodNamed B.named
  have hlocks := B.notSynchronized
  obtain ⟨R, hR⟩ : ∃ R : Room, R = ({ frames := 1, cells := 0, slots := 0, locals := 23 } : Room) := ⟨_, rfl⟩
  rw [show (headSpec (wz yX7_change cX7_change 3 none) { frames := 1, cells := 0, slots := 0, locals := 23 }).room = R from hR.symm]
  refine ti_mv hx hb hr hlocks (fun Q ret => ?_)
  have hl := lv_entry [.ref a0, .int x1, .int x2] (n := 3) (Nat.le_of_ble_eq_true rfl)
  rw [lg_entry_eq]
  generalize (lg_sl [.ref a0, .int x1, .int x2] ++ List.replicate (3 - (lg_sl [.ref a0, .int x1, .int x2]).length) Slot.unset).toArray = ls at hl ⊢
  have hl : lv_has ls 3 [(0, .ref a0), (1, .int x1), (2, .int x2)] := hl
  refine ti_gen (P := fun H => TI D vwCl (tysOf c0) (RTg ν) Y H) (Y := Y) (ws := [3]) hT (fun H locs hT hS => ?_)
  refine lv_aload_n hx hb dX7_change_0 rfl (lv_at hl 0 rfl) ?_
  refine ti_getr hx hb hts inlX7 hown hK hT ha0 rfl rfl rfl 8 (by decide) (hts _ kw_65) (fun _ h9 => h9) rfl dX7_change_1 (fun v1 hv1 hm1 => ?_)
  refine lv_iload_n hx hb dX7_change_4 rfl (lv_at hl 1 rfl) ?_
  refine ti_aald hx hb (aT6 hK) hT hv1 rfl hx1 (by decide) (fun _ _ _ => rfl) dX7_change_5 (fun v5 hv5 => ?_)
  refine lv_aload_n hx hb dX7_change_6 rfl (lv_at hl 0 rfl) ?_
  refine ti_getE (ci := 7) (v := .ref v1) hx hb hts inlX7 hown hK hm1 rfl (by decide) (hts _ kw_65) (fun _ h9 => h9) dX7_change_7 ?_
  refine lv_iload_n hx hb dX7_change_10 rfl (lv_at hl 1 rfl) ?_
  refine ti_aald hx hb (aT6 hK) hT hv1 rfl hx1 (by decide) (fun _ _ _ => rfl) dX7_change_11 (fun v11 hv11 => ?_)
  refine ti_geti hx hb hts inlX3 hown hK hT hv11 rfl rfl rfl 0 (by decide) (hts _ kw_702) (fun _ h9 => h9) rfl dX7_change_12 (fun v12 hv12 hm12 => ?_)
  refine lv_iload_n hx hb dX7_change_15 rfl (lv_at hl 2 rfl) ?_
  refine lv_iadd hx hb dX7_change_16 ?_
  refine lv_topi (fun v16 e16 => ?_)
  have hv16 : iv v16 (-2147483648) 2147483647 := iv_top _
  refine lv_aload_n hx hb dX7_change_17 rfl (lv_at hl 0 rfl) ?_
  refine ti_geti hx hb hts inlX7 hown hK hT ha0 rfl rfl rfl 0 (by decide) (hts _ kw_85) (fun _ h9 => h9) rfl dX7_change_18 (fun v18 hv18 hm18 => ?_)
  refine ti_callv (va_runV (As := [.int v16, .int v18]) (rest := []) ⟨hx, hb, hml, hown, hts⟩ (t_X3_setHas l hT hv5 (iv_w hv16 (by decide)) (iv_w hv18 (by decide))) (cwV 2 hts (good_V kw_683 kw_500 kw_501 kw_68 kw_502) rfl rfl rfl (by decide +kernel) ⟨by rw [hR]; decide, by rw [hR]; decide⟩) (ti_preV hK hT hv5 rfl rfl) rfl rfl hl.1 rfl (lv_room (Nat.le_of_ble_eq_true rfl)) dX7_change_21 ⟨Nat.zero_le _, Nat.zero_le _⟩) hS (pW_sub rfl) (fun H locs hB hS _ hk21 => ?_)
  have hT := hB
  exact ret _ _ _ _ dX7_change_24 (hT) hS
set_option maxHeartbeats 4000000 in
set_option maxRecDepth 100000 in
theorem t_X7_hand (l : Launch) {D : va_G} {c0 : Nat → ClassId} {Y : Nat → Option Nat} {ν : Nat → Nat} {H : Heap} (hT : TI D vwCl (tysOf c0) (RTg ν) Y H) {a0 : Nat} (ha0 : Y a0 = some 7) {x1 : Int32} (hx1 : iv x1 0 7) {x2 : Int32} (hx2 : iv x2 0 7) {x3 : Int32} (hx3 : iv x3 (-2147483648) 2147483647) : Met l yX7_hand (wz yX7_hand cX7_hand 4 none) { frames := 1, cells := 0, slots := 0, locals := 23 } (TP D vwCl (tysOf c0) H [.ref a0, .int x1, .int x2, .int x3]) (TQv (fun H' => TI D vwCl (tysOf c0) (RTg ν) Y H') Y [3]) 0 0 (pW Y [3]) := by
  refine Met.ofW (cc := cX7_hand) (maxL := 4) (ret := none) (by decide) rfl ?_
  intro p e s m args below meth c s₁ B hml hv
  obtain ⟨rfl, rfl, hK⟩ := hv
  have hx := B.exec
  have hb := B.bytes
  have hr := B.returns
  have hts : ∀ w ∈ wq, w.before _ s = true := fun w h => atoms_spec (ws := wz yX7_hand cX7_hand 4 none) B.pre w (List.mem_cons_of_mem _ h)
  have hown : s.vm.findClass RX7 = some m.cls := findClass_of_methodNamed B.named
  have hlocks := B.notSynchronized
  obtain ⟨R, hR⟩ : ∃ R : Room, R = ({ frames := 1, cells := 0, slots := 0, locals := 23 } : Room) := ⟨_, rfl⟩
  rw [show (headSpec (wz yX7_hand cX7_hand 4 none) { frames := 1, cells := 0, slots := 0, locals := 23 }).room = R from hR.symm]
  refine ti_mv hx hb hr hlocks (fun Q ret => ?_)
  have hl := lv_entry [.ref a0, .int x1, .int x2, .int x3] (n := 4) (Nat.le_of_ble_eq_true rfl)
  rw [lg_entry_eq]
  generalize (lg_sl [.ref a0, .int x1, .int x2, .int x3] ++ List.replicate (4 - (lg_sl [.ref a0, .int x1, .int x2, .int x3]).length) Slot.unset).toArray = ls at hl ⊢
  have hl : lv_has ls 4 [(0, .ref a0), (1, .int x1), (2, .int x2), (3, .int x3)] := hl
  refine ti_gen (P := fun H => TI D vwCl (tysOf c0) (RTg ν) Y H) (Y := Y) (ws := [3]) hT (fun H locs hT hS => ?_)
  refine lv_aload_n hx hb dX7_hand_0 rfl (lv_at hl 0 rfl) ?_
  refine ti_getr hx hb hts inlX7 hown hK hT ha0 rfl rfl rfl 8 (by decide) (hts _ kw_65) (fun _ h9 => h9) rfl dX7_hand_1 (fun v1 hv1 hm1 => ?_)
  refine lv_iload_n hx hb dX7_hand_4 rfl (lv_at hl 1 rfl) ?_
  refine ti_aald hx hb (aT6 hK) hT hv1 rfl hx1 (by decide) (fun _ _ _ => rfl) dX7_hand_5 (fun v5 hv5 => ?_)
  refine lv_aload_n hx hb dX7_hand_6 rfl (lv_at hl 0 rfl) ?_
  refine ti_getE (ci := 7) (v := .ref v1) hx hb hts inlX7 hown hK hm1 rfl (by decide) (hts _ kw_65) (fun _ h9 => h9) dX7_hand_7 ?_
  refine lv_iload_n hx hb dX7_hand_10 rfl (lv_at hl 1 rfl) ?_
  refine ti_aald hx hb (aT6 hK) hT hv1 rfl hx1 (by decide) (fun _ _ _ => rfl) dX7_hand_11 (fun v11 hv11 => ?_)
  refine ti_geti hx hb hts inlX3 hown hK hT hv11 rfl rfl rfl 0 (by decide) (hts _ kw_702) (fun _ h9 => h9) rfl dX7_hand_12 (fun v12 hv12 hm12 => ?_)
  refine lv_iload_n hx hb dX7_hand_15 rfl (lv_at hl 3 rfl) ?_
  refine lv_isub hx hb dX7_hand_16 ?_
  refine lv_topi (fun v16 e16 => ?_)
  have hv16 : iv v16 (-2147483648) 2147483647 := iv_top _
  refine lv_aload_n hx hb dX7_hand_17 rfl (lv_at hl 0 rfl) ?_
  refine ti_geti hx hb hts inlX7 hown hK hT ha0 rfl rfl rfl 0 (by decide) (hts _ kw_85) (fun _ h9 => h9) rfl dX7_hand_18 (fun v18 hv18 hm18 => ?_)
  refine ti_callv (va_runV (As := [.int v16, .int v18]) (rest := []) ⟨hx, hb, hml, hown, hts⟩ (t_X3_setHas l hT hv5 (iv_w hv16 (by decide)) (iv_w hv18 (by decide))) (cwV 2 hts (good_V kw_683 kw_500 kw_501 kw_68 kw_502) rfl rfl rfl (by decide +kernel) ⟨by rw [hR]; decide, by rw [hR]; decide⟩) (ti_preV hK hT hv5 rfl rfl) rfl rfl hl.1 rfl (lv_room (Nat.le_of_ble_eq_true rfl)) dX7_hand_21 ⟨Nat.zero_le _, Nat.zero_le _⟩) hS (pW_sub rfl) (fun H locs hB hS _ hk21 => ?_)
  have hT := hB
  refine lv_aload_n hx hb dX7_hand_24 rfl (lv_at hl 0 rfl) ?_
  refine ti_getE (ci := 7) (v := .ref v1) hx hb hts inlX7 hown hK (hm1.call hk21 (pW_not ha0 rfl)) rfl (by decide) (hts _ kw_65) (fun _ h9 => h9) dX7_hand_25 ?_
  refine lv_iload_n hx hb dX7_hand_28 rfl (lv_at hl 2 rfl) ?_
  refine ti_aald hx hb (aT6 hK) hT hv1 rfl hx2 (by decide) (fun _ _ _ => rfl) dX7_hand_29 (fun v29 hv29 => ?_)
  refine lv_aload_n hx hb dX7_hand_30 rfl (lv_at hl 0 rfl) ?_
  refine ti_getE (ci := 7) (v := .ref v1) hx hb hts inlX7 hown hK (hm1.call hk21 (pW_not ha0 rfl)) rfl (by decide) (hts _ kw_65) (fun _ h9 => h9) dX7_hand_31 ?_
  refine lv_iload_n hx hb dX7_hand_34 rfl (lv_at hl 2 rfl) ?_
  refine ti_aald hx hb (aT6 hK) hT hv1 rfl hx2 (by decide) (fun _ _ _ => rfl) dX7_hand_35 (fun v35 hv35 => ?_)
  refine ti_geti hx hb hts inlX3 hown hK hT hv35 rfl rfl rfl 0 (by decide) (hts _ kw_702) (fun _ h9 => h9) rfl dX7_hand_36 (fun v36 hv36 hm36 => ?_)
  refine lv_iload_n hx hb dX7_hand_39 rfl (lv_at hl 3 rfl) ?_
  refine lv_iadd hx hb dX7_hand_40 ?_
  refine lv_topi (fun v40 e40 => ?_)
  have hv40 : iv v40 (-2147483648) 2147483647 := iv_top _
  refine lv_aload_n hx hb dX7_hand_41 rfl (lv_at hl 0 rfl) ?_
  refine ti_getE (ci := 7) (v := .int v18) hx hb hts inlX7 hown hK (hm18.call hk21 (pW_not ha0 rfl)) rfl (by decide) (hts _ kw_85) (fun _ h9 => h9) dX7_hand_42 ?_
  refine ti_callv (va_runV (As := [.int v40, .int v18]) (rest := []) ⟨hx, hb, hml, hown, hts⟩ (t_X3_setHas l hT hv29 (iv_w hv40 (by decide)) (iv_w hv18 (by decide))) (cwV 2 hts (good_V kw_683 kw_500 kw_501 kw_68 kw_502) rfl rfl rfl (by decide +kernel) ⟨by rw [hR]; decide, by rw [hR]; decide⟩) (ti_preV hK hT hv29 rfl rfl) rfl rfl hl.1 rfl (lv_room (Nat.le_of_ble_eq_true rfl)) dX7_hand_45 ⟨Nat.zero_le _, Nat.zero_le _⟩) hS (pW_sub rfl) (fun H locs hB hS _ hk45 => ?_)
  have hT := hB
  exact ret _ _ _ _ dX7_hand_48 (hT) hS
set_option maxHeartbeats 4000000 in
set_option maxRecDepth 100000 in
theorem t_X7_perform (l : Launch) {D : va_G} {c0 : Nat → ClassId} {Y : Nat → Option Nat} {ν : Nat → Nat} {H : Heap} (hT : TI D vwCl (tysOf c0) (RTg ν) Y H) {a0 : Nat} (ha0 : Y a0 = some 7) {x1 : Int32} (hx1 : iv x1 0 7) {x2 : Int32} (hx2 : iv x2 (-2147483648) 2147483647) {x3 : Int32} (hx3 : iv x3 (-2147483648) 2147483647) {x4 : Int32} (hx4 : iv x4 (-2147483648) 2147483647) {x5 : Int32} (hx5 : iv x5 (-1) 7) (hi0 : 1 ≤ x4.toInt → 0 ≤ x5.toInt) : Met l yX7_perform (wz yX7_perform cX7_perform 6 none) { frames := 2, cells := 0, slots := 0, locals := 83 } (TP D vwCl (tysOf c0) H [.ref a0, .int x1, .int x2, .int x3, .int x4, .int x5]) (TQv (fun H' => TI D vwCl (tysOf c0) (RTg ν) Y H') Y [3]) 0 0 (pW Y [3]) := by
  refine Met.ofW (cc := cX7_perform) (maxL := 6) (ret := none) (by decide) rfl ?_
  intro p e s m args below meth c s₁ B hml hv
  obtain ⟨rfl, rfl, hK⟩ := hv
  have hx := B.exec
  have hb := B.bytes
  have hr := B.returns
  have hts : ∀ w ∈ wq, w.before _ s = true := fun w h => atoms_spec (ws := wz yX7_perform cX7_perform 6 none) B.pre w (List.mem_cons_of_mem _ h)
  have hown : s.vm.findClass RX7 = some m.cls := findClass_of_methodNamed B.named
  have hlocks := B.notSynchronized
  obtain ⟨R, hR⟩ : ∃ R : Room, R = ({ frames := 2, cells := 0, slots := 0, locals := 83 } : Room) := ⟨_, rfl⟩
  rw [show (headSpec (wz yX7_perform cX7_perform 6 none) { frames := 2, cells := 0, slots := 0, locals := 83 }).room = R from hR.symm]
  refine ti_mv hx hb hr hlocks (fun Q ret => ?_)
  have hl := lv_entry [.ref a0, .int x1, .int x2, .int x3, .int x4, .int x5] (n := 6) (Nat.le_of_ble_eq_true rfl)
  rw [lg_entry_eq]
  generalize (lg_sl [.ref a0, .int x1, .int x2, .int x3, .int x4, .int x5] ++ List.replicate (6 - (lg_sl [.ref a0, .int x1, .int x2, .int x3, .int x4, .int x5]).length) Slot.unset).toArray = ls at hl ⊢
  have hl : lv_has ls 6 [(0, .ref a0), (1, .int x1), (2, .int x2), (3, .int x3), (4, .int x4), (5, .int x5)] := hl
  refine ti_gen (P := fun H => TI D vwCl (tysOf c0) (RTg ν) Y H) (Y := Y) (ws := [3]) hT (fun H locs hT hS => ?_)
  refine lv_aload_n hx hb dX7_perform_0 rfl (lv_at hl 0 rfl) ?_
  refine ti_getr hx hb hts inlX7 hown hK hT ha0 rfl rfl rfl 8 (by decide) (hts _ kw_65) (fun _ h9 => h9) rfl dX7_perform_1 (fun v1 hv1 hm1 => ?_)
  refine lv_iload_n hx hb dX7_perform_4 rfl (lv_at hl 1 rfl) ?_
  refine ti_aald hx hb (aT6 hK) hT hv1 rfl hx1 (by decide) (fun _ _ _ => rfl) dX7_perform_5 (fun v5 hv5 => ?_)
  refine lv_aload_n hx hb dX7_perform_6 rfl (lv_at hl 0 rfl) ?_
  refine lv_iload_n hx hb dX7_perform_7 rfl (lv_at hl 1 rfl) ?_
  refine lv_iload_n hx hb dX7_perform_8 rfl (lv_at hl 2 rfl) ?_
  refine ti_calli (va_runV (As := [.int x1, .int x2]) (rest := [.ref v5]) ⟨hx, hb, hml, hown, hts⟩ (t_X7_hasAfter l hT ha0 (iv_w hx1 (by decide)) (iv_w hx2 (by decide))) (cwV 2 hts (good_V kw_770 kw_762 kw_763 kw_19 kw_764) rfl rfl rfl (by decide +kernel) ⟨by rw [hR]; decide, by rw [hR]; decide⟩) (ti_preV hK hT ha0 rfl rfl) rfl rfl hl.1 rfl (lv_room (Nat.le_of_ble_eq_true rfl)) dX7_perform_9 ⟨Nat.zero_le _, Nat.zero_le _⟩) hS (pW_sub rfl) (fun v9 H1 locs hB hS _ hk9 => ?_)
  obtain ⟨hH, hv9⟩ := hB
  rw [hH] at hS ⊢
  refine lv_aload_n hx hb dX7_perform_12 rfl (lv_at hl 0 rfl) ?_
  refine ti_geti hx hb hts inlX7 hown hK hT ha0 rfl rfl rfl 0 (by decide) (hts _ kw_85) (fun _ h9 => h9) rfl dX7_perform_13 (fun v13 hv13 hm13 => ?_)
  refine ti_callv (va_runV (As := [.int v9, .int v13]) (rest := []) ⟨hx, hb, hml, hown, hts⟩ (t_X3_setHas l hT hv5 (iv_w hv9 (by decide)) (iv_w hv13 (by decide))) (cwV 2 hts (good_V kw_683 kw_500 kw_501 kw_68 kw_502) rfl rfl rfl (by decide +kernel) ⟨by rw [hR]; decide, by rw [hR]; decide⟩) (ti_preV hK hT hv5 rfl rfl) rfl rfl hl.1 rfl (lv_room (Nat.le_of_ble_eq_true rfl)) dX7_perform_16 ⟨Nat.zero_le _, Nat.zero_le _⟩) hS (pW_sub rfl) (fun H locs hB hS _ hk16 => ?_)
  have hT := hB
  refine lv_aload_n hx hb dX7_perform_19 rfl (lv_at hl 0 rfl) ?_
  refine lv_iload_n hx hb dX7_perform_20 rfl (lv_at hl 1 rfl) ?_
  refine lv_iload_n hx hb dX7_perform_21 rfl (lv_at hl 3 rfl) ?_
  refine lv_ineg hx hb dX7_perform_22 ?_
  refine lv_topi (fun v22 e22 => ?_)
  have hv22 : iv v22 (-2147483648) 2147483647 := iv_top _
  refine ti_callv (va_runV (As := [.int x1, .int v22]) (rest := []) ⟨hx, hb, hml, hown, hts⟩ (t_X7_change l hT ha0 (iv_w hx1 (by decide)) (iv_w hv22 (by decide))) (cwV 2 hts (good_V kw_698 kw_699 kw_700 kw_19 kw_701) rfl rfl rfl (by decide +kernel) ⟨by rw [hR]; decide, by rw [hR]; decide⟩) (ti_preV hK hT ha0 rfl rfl) rfl rfl hl.1 rfl (lv_room (Nat.le_of_ble_eq_true rfl)) dX7_perform_23 ⟨Nat.zero_le _, Nat.zero_le _⟩) hS (pW_sub rfl) (fun H locs hB hS _ hk23 => ?_)
  have hT := hB
  refine lv_iload hx hb dX7_perform_26 (lv_at hl 4 rfl) ?_
  refine lv_if_le (tgt := 40) hx hb dX7_perform_28 (by decide) (fun c28 => ?_) (fun c28 => ?_)
  · skip
    have kl0 : (0 : Int32).toInt = 0 := by decide
    have f28 := i_le c28
    have hx4_28l : iv x4 (-2147483648) 0 := iv_lel hx4 (iv_c (x := (0 : Int32)) (k := 0) (by decide)) c28 (by decide)
    exact ret _ _ _ _ dX7_perform_40 (hT) hS
  · skip
    have kl0 : (0 : Int32).toInt = 0 := by decide
    have f28 := i_nle c28
    have hx4_28r : iv x4 1 2147483647 := iv_ltr (iv_c (x := (0 : Int32)) (k := 0) (by decide)) hx4 (Int32.not_le.mp c28) (by decide)
    have hq28_8 : iv x5 0 7 := by have := hi0; have b0a := (hx4_28r).1; have b0b := (hx4_28r).2; have b1a := (hx5).1; have b1b := (hx5).2; exact ⟨by omega, by omega⟩
    refine lv_aload_n hx hb dX7_perform_31 rfl (lv_at hl 0 rfl) ?_
    refine lv_iload_n hx hb dX7_perform_32 rfl (lv_at hl 1 rfl) ?_
    refine lv_iload hx hb dX7_perform_33 (lv_at hl 5 rfl) ?_
    refine lv_iload hx hb dX7_perform_35 (lv_at hl 4 rfl) ?_
    refine ti_callv (va_runV (As := [.int x1, .int x5, .int x4]) (rest := []) ⟨hx, hb, hml, hown, hts⟩ (t_X7_hand l hT ha0 (iv_w hx1 (by decide)) (iv_w hq28_8 (by decide)) (iv_w hx4_28r (by decide))) (cwV 3 hts (good_V kw_711 kw_712 kw_713 kw_19 kw_714) rfl rfl rfl (by decide +kernel) ⟨by rw [hR]; decide, by rw [hR]; decide⟩) (ti_preV hK hT ha0 rfl rfl) rfl rfl hl.1 rfl (lv_room (Nat.le_of_ble_eq_true rfl)) dX7_perform_37 ⟨Nat.zero_le _, Nat.zero_le _⟩) hS (pW_sub rfl) (fun H locs hB hS _ hk37 => ?_)
    have hT := hB
    exact ret _ _ _ _ dX7_perform_40 (hT) hS
set_option maxHeartbeats 4000000 in
set_option maxRecDepth 100000 in
theorem t_X7_topFor (l : Launch) {D : va_G} {c0 : Nat → ClassId} {Y : Nat → Option Nat} {ν : Nat → Nat} {H : Heap} (hT : TI D vwCl (tysOf c0) (RTg ν) Y H) {a0 : Nat} (ha0 : Y a0 = some 7) {x1 : Int32} (hx1 : iv x1 0 7) : Met l yX7_topFor (wz yX7_topFor cX7_topFor 4 (some .int)) { frames := 2, cells := 0, slots := 0, locals := 60 } (TP D vwCl (tysOf c0) H [.ref a0, .int x1]) (TQi (fun x H' => H' = H ∧ iv x 0 2147483647) Y []) 0 0 (pW Y []) := by
  refine Met.ofW (cc := cX7_topFor) (maxL := 4) (ret := (some .int)) (by decide) rfl ?_
  intro p e s m args below meth c s₁ B hml hv
  obtain ⟨rfl, rfl, hK⟩ := hv
  have hx := B.exec
  have hb := B.bytes
  have hr := B.returns
  have hts : ∀ w ∈ wq, w.before _ s = true := fun w h => atoms_spec (ws := wz yX7_topFor cX7_topFor 4 (some .int)) B.pre w (List.mem_cons_of_mem _ h)
  have hown : s.vm.findClass RX7 = some m.cls := findClass_of_methodNamed B.named
  have hlocks := B.notSynchronized
  obtain ⟨R, hR⟩ : ∃ R : Room, R = ({ frames := 2, cells := 0, slots := 0, locals := 60 } : Room) := ⟨_, rfl⟩
  rw [show (headSpec (wz yX7_topFor cX7_topFor 4 (some .int)) { frames := 2, cells := 0, slots := 0, locals := 60 }).room = R from hR.symm]
  refine ti_mi hx hb hr hlocks (fun Q ret => ?_)
  have hl := lv_entry [.ref a0, .int x1] (n := 4) (Nat.le_of_ble_eq_true rfl)
  rw [lg_entry_eq]
  generalize (lg_sl [.ref a0, .int x1] ++ List.replicate (4 - (lg_sl [.ref a0, .int x1]).length) Slot.unset).toArray = ls at hl ⊢
  have hl : lv_has ls 4 [(0, .ref a0), (1, .int x1)] := hl
  have hS : va_S (pW Y []) s.heap s.heap [] := va_S.rf
  refine lv_iconst (v := 0) hx hb dX7_topFor_0 (by decide) ?_
  refine lv_istore_n (lv' := [(2, .int (0 : Int32)), (0, .ref a0), (1, .int x1)]) hx hb dX7_topFor_1 rfl hl (by decide) rfl (fun ls hl => ?_)
  refine lv_iconst (v := 0) hx hb dX7_topFor_2 (by decide) ?_
  have J4 : ∀ (n : Nat) (j4_L2 : Int32) (j4_L3 : Int32) (locs : List Loc) (ls : Array Slot), (8 - j4_L3.toInt).toNat < n → iv j4_L2 0 2147483647 → iv j4_L3 0 8 → va_S (pW Y []) s.heap s.heap locs → lv_has ls 4 [(0, .ref a0), (1, .int x1), (2, .int j4_L2), (3, .int j4_L3)] → W p l e R s m ([.ref a0, .int x1] : List Value).toArray below meth c s.heap locs 0 0 Q (F0 m 4 ls []) := by
    intro n
    induction n with
    | zero => intro j4_L2 j4_L3 locs ls hms; exact absurd hms (Nat.not_lt_zero _)
    | succ n ih4 =>
      intro j4_L2 j4_L3 locs ls hms4 hj4_L2 hj4_L3 hS hl
      refine lv_iload_n hx hb dX7_topFor_4 rfl (lv_at hl 3 rfl) ?_
      refine lv_aload_n hx hb dX7_topFor_5 rfl (lv_at hl 0 rfl) ?_
      refine ti_geti hx hb hts inlX7 hown hK hT ha0 rfl rfl rfl 1 (by decide) (hts _ kw_86) (fun _ h9 => h9) rfl dX7_topFor_6 (fun v6 hv6 hm6 => ?_)
      refine lv_icmp_ge (tgt := 34) hx hb dX7_topFor_9 (by decide) (fun c9 => ?_) (fun c9 => ?_)
      · skip
        have f9 := i_le c9
        refine lv_iload_n hx hb dX7_topFor_34 rfl (lv_at hl 2 rfl) ?_
        exact ret _ _ _ _ _ dX7_topFor_35 (⟨rfl, iv_w hj4_L2 (by decide)⟩) hS
      · skip
        have f9 := i_nle c9
        have hj4_L3_9l : iv j4_L3 0 7 := iv_ltl hj4_L3 hv6 (Int32.not_le.mp c9) (by decide)
        have hv6_9r : iv v6 1 8 := iv_ltr hj4_L3_9l hv6 (Int32.not_le.mp c9) (by decide)
        refine lv_iload_n hx hb dX7_topFor_12 rfl (lv_at hl 3 rfl) ?_
        refine lv_iload_n hx hb dX7_topFor_13 rfl (lv_at hl 1 rfl) ?_
        have J28 : ∀ (j28_L2 : Int32) (locs : List Loc) (ls : Array Slot), iv j28_L2 0 2147483647 → va_S (pW Y []) s.heap s.heap locs → lv_has ls 4 [(0, .ref a0), (1, .int x1), (2, .int j28_L2), (3, .int j4_L3)] → W p l e R s m ([.ref a0, .int x1] : List Value).toArray below meth c s.heap locs 0 0 Q (F0 m 28 ls []) := by
          intro j28_L2 locs ls hj28_L2 hS hl
          obtain ⟨v28, e28⟩ : ∃ y : Int32, y = j4_L3 + 1 := ⟨_, rfl⟩
          have hv28 : iv v28 1 8 := by rw [e28]; exact iv_w (iv_add hj4_L3_9l (iv_c (x := (1 : Int32)) (k := 1) (by decide)) (by decide)) (by decide)
          have s28 : v28.toInt = j4_L3.toInt + 1 := by rw [e28, iv_addE hj4_L3_9l (iv_c (x := (1 : Int32)) (k := 1) (by decide)) (by decide)]; rfl
          refine lv_iinc (v := v28) (lv' := [(3, .int v28), (0, .ref a0), (1, .int x1), (2, .int j28_L2)]) hx hb dX7_topFor_28 hl (k := 3) rfl (by rw [e28]; rfl) (by decide) rfl (fun ls hl => ?_)
          refine lv_goto (tgt := 4) hx hb dX7_topFor_31 (by decide) ?_
          exact ih4 j28_L2 v28 _ _ (ms_up hms4 (by have := s28; omega) (iv_w (c := 1) (d := 8) hv28 (by decide)).2) (iv_w hj28_L2 (by decide)) (iv_w hv28 (by decide))  hS (lv_sub hl [1, 2, 3, 0] rfl)
        refine lv_icmp_eq (tgt := 28) hx hb dX7_topFor_14 (by decide) (fun c14 => ?_) (fun c14 => ?_)
        · skip
          have f14 := i_eq c14
          exact J28 j4_L2 _ _  (iv_w hj4_L2 (by decide))  hS (lv_sub hl [0, 1, 2, 3] rfl)
        · skip
          have f14 := i_ne c14
          refine lv_iload_n hx hb dX7_topFor_17 rfl (lv_at hl 2 rfl) ?_
          refine lv_aload_n hx hb dX7_topFor_18 rfl (lv_at hl 0 rfl) ?_
          refine lv_iload_n hx hb dX7_topFor_19 rfl (lv_at hl 1 rfl) ?_
          refine lv_iload_n hx hb dX7_topFor_20 rfl (lv_at hl 3 rfl) ?_
          refine ti_calli (va_runV (As := [.int x1, .int j4_L3]) (rest := [.int j4_L2]) ⟨hx, hb, hml, hown, hts⟩ (t_X7_seenBy l hT ha0 (iv_w hx1 (by decide)) (iv_w hj4_L3_9l (by decide))) (cwV 2 hts (good_V kw_918 kw_534 kw_535 kw_19 kw_536) rfl rfl rfl (by decide +kernel) ⟨by rw [hR]; decide, by rw [hR]; decide⟩) (ti_preV hK hT ha0 rfl rfl) rfl rfl hl.1 rfl (lv_room (Nat.le_of_ble_eq_true rfl)) dX7_topFor_21 ⟨Nat.zero_le _, Nat.zero_le _⟩) hS (pW_sub rfl) (fun v21 H1 locs hB hS _ hk21 => ?_)
          have hH := hB
          rw [hH] at hS ⊢
          refine va_mmax hx hb (by rw [hml]; exact hl.1.symm) hown (hts _ kw_917) (hts _ kw_618) (hts _ kw_212) (hts _ kw_619) (by rw [hR]; decide) (by rw [hR]; exact Nat.le_of_ble_eq_true rfl) (Nat.zero_le _) (Nat.zero_le _) dX7_topFor_24 ?_
          refine lv_topi (fun v24 e24 => ?_)
          have hv24 : iv v24 0 2147483647 := by rw [e24]; exact iv_max hj4_L2 (iv_top v21) (by decide)
          refine lv_istore_n (lv' := [(2, .int v24), (0, .ref a0), (1, .int x1), (3, .int j4_L3)]) hx hb dX7_topFor_27 rfl hl (by decide) rfl (fun ls hl => ?_)
          exact J28 v24 _ _  (iv_w hv24 (by decide))  hS (lv_sub hl [1, 2, 0, 3] rfl)
  refine lv_istore_n (lv' := [(3, .int (0 : Int32)), (2, .int (0 : Int32)), (0, .ref a0), (1, .int x1)]) hx hb dX7_topFor_3 rfl hl (by decide) rfl (fun ls hl => ?_)
  exact J4 _ (0 : Int32) (0 : Int32) _ _ (Nat.lt_succ_self _) (iv_w (iv_c (x := (0 : Int32)) (k := 0) (by decide)) (by decide)) (iv_w (iv_c (x := (0 : Int32)) (k := 0) (by decide)) (by decide))  hS (lv_sub hl [2, 3, 1, 0] rfl)
set_option maxHeartbeats 4000000 in
set_option maxRecDepth 100000 in
theorem t_X7_spreadOut (l : Launch) {D : va_G} {c0 : Nat → ClassId} {Y : Nat → Option Nat} {ν : Nat → Nat} {H : Heap} (hT : TI D vwCl (tysOf c0) (RTg ν) Y H) {a0 : Nat} (ha0 : Y a0 = some 7) : Met l yX7_spreadOut (wz yX7_spreadOut cX7_spreadOut 4 (some .int)) { frames := 1, cells := 0, slots := 0, locals := 60 } (TP D vwCl (tysOf c0) H [.ref a0]) (TQi (fun x H' => H' = H) Y []) 0 0 (pW Y []) := by
  refine Met.ofW (cc := cX7_spreadOut) (maxL := 4) (ret := (some .int)) (by decide) rfl ?_
  intro p e s m args below meth c s₁ B hml hv
  obtain ⟨rfl, rfl, hK⟩ := hv
  have hx := B.exec
  have hb := B.bytes
  have hr := B.returns
  have hts : ∀ w ∈ wq, w.before _ s = true := fun w h => atoms_spec (ws := wz yX7_spreadOut cX7_spreadOut 4 (some .int)) B.pre w (List.mem_cons_of_mem _ h)
  have hown : s.vm.findClass RX7 = some m.cls := findClass_of_methodNamed B.named
  have hlocks := B.notSynchronized
  obtain ⟨R, hR⟩ : ∃ R : Room, R = ({ frames := 1, cells := 0, slots := 0, locals := 60 } : Room) := ⟨_, rfl⟩
  rw [show (headSpec (wz yX7_spreadOut cX7_spreadOut 4 (some .int)) { frames := 1, cells := 0, slots := 0, locals := 60 }).room = R from hR.symm]
  refine ti_mi hx hb hr hlocks (fun Q ret => ?_)
  have hl := lv_entry [.ref a0] (n := 4) (Nat.le_of_ble_eq_true rfl)
  rw [lg_entry_eq]
  generalize (lg_sl [.ref a0] ++ List.replicate (4 - (lg_sl [.ref a0]).length) Slot.unset).toArray = ls at hl ⊢
  have hl : lv_has ls 4 [(0, .ref a0)] := hl
  have hS : va_S (pW Y []) s.heap s.heap [] := va_S.rf
  refine lv_iconst (v := 0) hx hb dX7_spreadOut_0 (by decide) ?_
  refine lv_istore_n (lv' := [(1, .int (0 : Int32)), (0, .ref a0)]) hx hb dX7_spreadOut_1 rfl hl (by decide) rfl (fun ls hl => ?_)
  refine lv_iconst (v := 0) hx hb dX7_spreadOut_2 (by decide) ?_
  have J4 : ∀ (n : Nat) (j4_L1 : Int32) (j4_L2 : Int32) (locs : List Loc) (ls : Array Slot), (8 - j4_L2.toInt).toNat < n → iv j4_L1 (-2147483648) 2147483647 → iv j4_L2 0 8 → va_S (pW Y []) s.heap s.heap locs → lv_has ls 4 [(0, .ref a0), (1, .int j4_L1), (2, .int j4_L2)] → W p l e R s m ([.ref a0] : List Value).toArray below meth c s.heap locs 0 0 Q (F0 m 4 ls []) := by
    intro n
    induction n with
    | zero => intro j4_L1 j4_L2 locs ls hms; exact absurd hms (Nat.not_lt_zero _)
    | succ n ih4 =>
      intro j4_L1 j4_L2 locs ls hms4 hj4_L1 hj4_L2 hS hl
      refine lv_iload_n hx hb dX7_spreadOut_4 rfl (lv_at hl 2 rfl) ?_
      refine lv_aload_n hx hb dX7_spreadOut_5 rfl (lv_at hl 0 rfl) ?_
      refine ti_geti hx hb hts inlX7 hown hK hT ha0 rfl rfl rfl 1 (by decide) (hts _ kw_86) (fun _ h9 => h9) rfl dX7_spreadOut_6 (fun v6 hv6 hm6 => ?_)
      refine lv_icmp_ge (tgt := 56) hx hb dX7_spreadOut_9 (by decide) (fun c9 => ?_) (fun c9 => ?_)
      · skip
        have f9 := i_le c9
        refine lv_iload_n hx hb dX7_spreadOut_56 rfl (lv_at hl 1 rfl) ?_
        exact ret _ _ _ _ _ dX7_spreadOut_57 (rfl) hS
      · skip
        have f9 := i_nle c9
        have hj4_L2_9l : iv j4_L2 0 7 := iv_ltl hj4_L2 hv6 (Int32.not_le.mp c9) (by decide)
        have hv6_9r : iv v6 1 8 := iv_ltr hj4_L2_9l hv6 (Int32.not_le.mp c9) (by decide)
        refine lv_iconst (v := 0) hx hb dX7_spreadOut_12 (by decide) ?_
        have J14 : ∀ (n : Nat) (j14_L1 : Int32) (j14_L3 : Int32) (locs : List Loc) (ls : Array Slot), (7 - j14_L3.toInt).toNat < n → iv j14_L1 (-2147483648) 2147483647 → iv j14_L3 0 7 → va_S (pW Y []) s.heap s.heap locs → lv_has ls 4 [(0, .ref a0), (1, .int j14_L1), (2, .int j4_L2), (3, .int j14_L3)] → W p l e R s m ([.ref a0] : List Value).toArray below meth c s.heap locs 0 0 Q (F0 m 14 ls []) := by
          intro n
          induction n with
          | zero => intro j14_L1 j14_L3 locs ls hms; exact absurd hms (Nat.not_lt_zero _)
          | succ n ih14 =>
            intro j14_L1 j14_L3 locs ls hms14 hj14_L1 hj14_L3 hS hl
            refine lv_iload_n hx hb dX7_spreadOut_14 rfl (lv_at hl 3 rfl) ?_
            refine lv_iload_n hx hb dX7_spreadOut_15 rfl (lv_at hl 2 rfl) ?_
            refine lv_icmp_ge (tgt := 50) hx hb dX7_spreadOut_16 (by decide) (fun c16 => ?_) (fun c16 => ?_)
            · skip
              have f16 := i_le c16
              obtain ⟨v50, e50⟩ : ∃ y : Int32, y = j4_L2 + 1 := ⟨_, rfl⟩
              have hv50 : iv v50 1 8 := by rw [e50]; exact iv_w (iv_add hj4_L2_9l (iv_c (x := (1 : Int32)) (k := 1) (by decide)) (by decide)) (by decide)
              have s50 : v50.toInt = j4_L2.toInt + 1 := by rw [e50, iv_addE hj4_L2_9l (iv_c (x := (1 : Int32)) (k := 1) (by decide)) (by decide)]; rfl
              refine lv_iinc (v := v50) (lv' := [(2, .int v50), (0, .ref a0), (1, .int j14_L1), (3, .int j14_L3)]) hx hb dX7_spreadOut_50 hl (k := 2) rfl (by rw [e50]; rfl) (by decide) rfl (fun ls hl => ?_)
              refine lv_goto (tgt := 4) hx hb dX7_spreadOut_53 (by decide) ?_
              exact ih4 j14_L1 v50 _ _ (ms_up hms4 (by have := s50; omega) (iv_w (c := 1) (d := 8) hv50 (by decide)).2) (iv_w hj14_L1 (by decide)) (iv_w hv50 (by decide))  hS (lv_sub hl [1, 2, 0] rfl)
            · skip
              have f16 := i_nle c16
              have hj14_L3_16l : iv j14_L3 0 6 := iv_ltl hj14_L3 hj4_L2_9l (Int32.not_le.mp c16) (by decide)
              have hj4_L2_16r : iv j4_L2 1 7 := iv_ltr hj14_L3_16l hj4_L2_9l (Int32.not_le.mp c16) (by decide)
              refine lv_iload_n hx hb dX7_spreadOut_19 rfl (lv_at hl 1 rfl) ?_
              refine lv_aload_n hx hb dX7_spreadOut_20 rfl (lv_at hl 0 rfl) ?_
              refine ti_getr hx hb hts inlX7 hown hK hT ha0 rfl rfl rfl 8 (by decide) (hts _ kw_65) (fun _ h9 => h9) rfl dX7_spreadOut_21 (fun v21 hv21 hm21 => ?_)
              refine lv_iload_n hx hb dX7_spreadOut_24 rfl (lv_at hl 2 rfl) ?_
              refine ti_aald hx hb (aT6 hK) hT hv21 rfl hj4_L2_16r (by decide) (fun _ _ _ => rfl) dX7_spreadOut_25 (fun v25 hv25 => ?_)
              refine ti_geti hx hb hts inlX3 hown hK hT hv25 rfl rfl rfl 0 (by decide) (hts _ kw_702) (fun _ h9 => h9) rfl dX7_spreadOut_26 (fun v26 hv26 hm26 => ?_)
              refine lv_aload_n hx hb dX7_spreadOut_29 rfl (lv_at hl 0 rfl) ?_
              refine ti_getE (ci := 7) (v := .ref v21) hx hb hts inlX7 hown hK hm21 rfl (by decide) (hts _ kw_65) (fun _ h9 => h9) dX7_spreadOut_30 ?_
              refine lv_iload_n hx hb dX7_spreadOut_33 rfl (lv_at hl 3 rfl) ?_
              refine ti_aald hx hb (aT6 hK) hT hv21 rfl hj14_L3_16l (by decide) (fun _ _ _ => rfl) dX7_spreadOut_34 (fun v34 hv34 => ?_)
              refine ti_geti hx hb hts inlX3 hown hK hT hv34 rfl rfl rfl 0 (by decide) (hts _ kw_702) (fun _ h9 => h9) rfl dX7_spreadOut_35 (fun v35 hv35 hm35 => ?_)
              refine lv_isub hx hb dX7_spreadOut_38 ?_
              refine lv_topi (fun v38 e38 => ?_)
              have hv38 : iv v38 (-2147483648) 2147483647 := iv_top _
              refine va_mabs hx hb (by rw [hml]; exact hl.1.symm) hown (hts _ kw_1178) (hts _ kw_1179) (hts _ kw_212) (hts _ kw_1180) (by rw [hR]; decide) (by rw [hR]; exact Nat.le_of_ble_eq_true rfl) (Nat.zero_le _) (Nat.zero_le _) dX7_spreadOut_39 ?_
              refine lv_topi (fun v39 e39 => ?_)
              have hv39 : iv v39 (-2147483648) 2147483647 := iv_top _
              refine lv_iadd hx hb dX7_spreadOut_42 ?_
              refine lv_topi (fun v42 e42 => ?_)
              have hv42 : iv v42 (-2147483648) 2147483647 := iv_top _
              refine lv_istore_n (lv' := [(1, .int v42), (0, .ref a0), (2, .int j4_L2), (3, .int j14_L3)]) hx hb dX7_spreadOut_43 rfl hl (by decide) rfl (fun ls hl => ?_)
              obtain ⟨v44, e44⟩ : ∃ y : Int32, y = j14_L3 + 1 := ⟨_, rfl⟩
              have hv44 : iv v44 1 7 := by rw [e44]; exact iv_w (iv_add hj14_L3_16l (iv_c (x := (1 : Int32)) (k := 1) (by decide)) (by decide)) (by decide)
              have s44 : v44.toInt = j14_L3.toInt + 1 := by rw [e44, iv_addE hj14_L3_16l (iv_c (x := (1 : Int32)) (k := 1) (by decide)) (by decide)]; rfl
              refine lv_iinc (v := v44) (lv' := [(3, .int v44), (1, .int v42), (0, .ref a0), (2, .int j4_L2)]) hx hb dX7_spreadOut_44 hl (k := 3) rfl (by rw [e44]; rfl) (by decide) rfl (fun ls hl => ?_)
              refine lv_goto (tgt := 14) hx hb dX7_spreadOut_47 (by decide) ?_
              exact ih14 v42 v44 _ _ (ms_up hms14 (by have := s44; omega) (iv_w (c := 1) (d := 7) hv44 (by decide)).2) (iv_w hv42 (by decide)) (iv_w hv44 (by decide))  hS (lv_sub hl [2, 1, 3, 0] rfl)
        refine lv_istore_n (lv' := [(3, .int (0 : Int32)), (0, .ref a0), (1, .int j4_L1), (2, .int j4_L2)]) hx hb dX7_spreadOut_13 rfl hl (by decide) rfl (fun ls hl => ?_)
        exact J14 _ j4_L1 (0 : Int32) _ _ (Nat.lt_succ_self _) (iv_w hj4_L1 (by decide)) (iv_w (iv_c (x := (0 : Int32)) (k := 0) (by decide)) (by decide))  hS (lv_sub hl [1, 2, 3, 0] rfl)
  refine lv_istore_n (lv' := [(2, .int (0 : Int32)), (1, .int (0 : Int32)), (0, .ref a0)]) hx hb dX7_spreadOut_3 rfl hl (by decide) rfl (fun ls hl => ?_)
  exact J4 _ (0 : Int32) (0 : Int32) _ _ (Nat.lt_succ_self _) (iv_w (iv_c (x := (0 : Int32)) (k := 0) (by decide)) (by decide)) (iv_w (iv_c (x := (0 : Int32)) (k := 0) (by decide)) (by decide))  hS (lv_sub hl [2, 1, 0] rfl)
set_option maxHeartbeats 4000000 in
set_option maxRecDepth 100000 in
theorem t_X7_goodOfAll (l : Launch) {D : va_G} {c0 : Nat → ClassId} {Y : Nat → Option Nat} {ν : Nat → Nat} {H : Heap} (hT : TI D vwCl (tysOf c0) (RTg ν) Y H) {a0 : Nat} (ha0 : Y a0 = some 7) : Met l yX7_goodOfAll (wz yX7_goodOfAll cX7_goodOfAll 3 (some .int)) { frames := 0, cells := 0, slots := 0, locals := 0 } (TP D vwCl (tysOf c0) H [.ref a0]) (TQi (fun x H' => H' = H) Y []) 0 0 (pW Y []) := by
  refine Met.ofW (cc := cX7_goodOfAll) (maxL := 3) (ret := (some .int)) (by decide) rfl ?_
  intro p e s m args below meth c s₁ B hml hv
  obtain ⟨rfl, rfl, hK⟩ := hv
  have hx := B.exec
  have hb := B.bytes
  have hr := B.returns
  have hts : ∀ w ∈ wq, w.before _ s = true := fun w h => atoms_spec (ws := wz yX7_goodOfAll cX7_goodOfAll 3 (some .int)) B.pre w (List.mem_cons_of_mem _ h)
  have hown : s.vm.findClass RX7 = some m.cls := findClass_of_methodNamed B.named
  have hlocks := B.notSynchronized
  obtain ⟨R, hR⟩ : ∃ R : Room, R = ({ frames := 0, cells := 0, slots := 0, locals := 0 } : Room) := ⟨_, rfl⟩
  rw [show (headSpec (wz yX7_goodOfAll cX7_goodOfAll 3 (some .int)) { frames := 0, cells := 0, slots := 0, locals := 0 }).room = R from hR.symm]
  refine ti_mi hx hb hr hlocks (fun Q ret => ?_)
  have hl := lv_entry [.ref a0] (n := 3) (Nat.le_of_ble_eq_true rfl)
  rw [lg_entry_eq]
  generalize (lg_sl [.ref a0] ++ List.replicate (3 - (lg_sl [.ref a0]).length) Slot.unset).toArray = ls at hl ⊢
  have hl : lv_has ls 3 [(0, .ref a0)] := hl
  have hS : va_S (pW Y []) s.heap s.heap [] := va_S.rf
  refine lv_iconst (v := 0) hx hb dX7_goodOfAll_0 (by decide) ?_
  refine lv_istore_n (lv' := [(1, .int (0 : Int32)), (0, .ref a0)]) hx hb dX7_goodOfAll_1 rfl hl (by decide) rfl (fun ls hl => ?_)
  refine lv_iconst (v := 0) hx hb dX7_goodOfAll_2 (by decide) ?_
  have J4 : ∀ (n : Nat) (j4_L1 : Int32) (j4_L2 : Int32) (locs : List Loc) (ls : Array Slot), (8 - j4_L2.toInt).toNat < n → iv j4_L1 (-2147483648) 2147483647 → iv j4_L2 0 8 → va_S (pW Y []) s.heap s.heap locs → lv_has ls 3 [(0, .ref a0), (1, .int j4_L1), (2, .int j4_L2)] → W p l e R s m ([.ref a0] : List Value).toArray below meth c s.heap locs 0 0 Q (F0 m 4 ls []) := by
    intro n
    induction n with
    | zero => intro j4_L1 j4_L2 locs ls hms; exact absurd hms (Nat.not_lt_zero _)
    | succ n ih4 =>
      intro j4_L1 j4_L2 locs ls hms4 hj4_L1 hj4_L2 hS hl
      refine lv_iload_n hx hb dX7_goodOfAll_4 rfl (lv_at hl 2 rfl) ?_
      refine lv_aload_n hx hb dX7_goodOfAll_5 rfl (lv_at hl 0 rfl) ?_
      refine ti_geti hx hb hts inlX7 hown hK hT ha0 rfl rfl rfl 1 (by decide) (hts _ kw_86) (fun _ h9 => h9) rfl dX7_goodOfAll_6 (fun v6 hv6 hm6 => ?_)
      refine lv_icmp_ge (tgt := 30) hx hb dX7_goodOfAll_9 (by decide) (fun c9 => ?_) (fun c9 => ?_)
      · skip
        have f9 := i_le c9
        refine lv_iload_n hx hb dX7_goodOfAll_30 rfl (lv_at hl 1 rfl) ?_
        exact ret _ _ _ _ _ dX7_goodOfAll_31 (rfl) hS
      · skip
        have f9 := i_nle c9
        have hj4_L2_9l : iv j4_L2 0 7 := iv_ltl hj4_L2 hv6 (Int32.not_le.mp c9) (by decide)
        have hv6_9r : iv v6 1 8 := iv_ltr hj4_L2_9l hv6 (Int32.not_le.mp c9) (by decide)
        refine lv_iload_n hx hb dX7_goodOfAll_12 rfl (lv_at hl 1 rfl) ?_
        refine lv_aload_n hx hb dX7_goodOfAll_13 rfl (lv_at hl 0 rfl) ?_
        refine ti_getr hx hb hts inlX7 hown hK hT ha0 rfl rfl rfl 8 (by decide) (hts _ kw_65) (fun _ h9 => h9) rfl dX7_goodOfAll_14 (fun v14 hv14 hm14 => ?_)
        refine lv_iload_n hx hb dX7_goodOfAll_17 rfl (lv_at hl 2 rfl) ?_
        refine ti_aald hx hb (aT6 hK) hT hv14 rfl hj4_L2_9l (by decide) (fun _ _ _ => rfl) dX7_goodOfAll_18 (fun v18 hv18 => ?_)
        refine ti_geti hx hb hts inlX3 hown hK hT hv18 rfl rfl rfl 4 (by decide) (hts _ kw_320) (fun _ h9 => h9) rfl dX7_goodOfAll_19 (fun v19 hv19 hm19 => ?_)
        refine lv_iadd hx hb dX7_goodOfAll_22 ?_
        refine lv_topi (fun v22 e22 => ?_)
        have hv22 : iv v22 (-2147483648) 2147483647 := iv_top _
        refine lv_istore_n (lv' := [(1, .int v22), (0, .ref a0), (2, .int j4_L2)]) hx hb dX7_goodOfAll_23 rfl hl (by decide) rfl (fun ls hl => ?_)
        obtain ⟨v24, e24⟩ : ∃ y : Int32, y = j4_L2 + 1 := ⟨_, rfl⟩
        have hv24 : iv v24 1 8 := by rw [e24]; exact iv_w (iv_add hj4_L2_9l (iv_c (x := (1 : Int32)) (k := 1) (by decide)) (by decide)) (by decide)
        have s24 : v24.toInt = j4_L2.toInt + 1 := by rw [e24, iv_addE hj4_L2_9l (iv_c (x := (1 : Int32)) (k := 1) (by decide)) (by decide)]; rfl
        refine lv_iinc (v := v24) (lv' := [(2, .int v24), (1, .int v22), (0, .ref a0)]) hx hb dX7_goodOfAll_24 hl (k := 2) rfl (by rw [e24]; rfl) (by decide) rfl (fun ls hl => ?_)
        refine lv_goto (tgt := 4) hx hb dX7_goodOfAll_27 (by decide) ?_
        exact ih4 v22 v24 _ _ (ms_up hms4 (by have := s24; omega) (iv_w (c := 1) (d := 8) hv24 (by decide)).2) (iv_w hv22 (by decide)) (iv_w hv24 (by decide))  hS (lv_sub hl [2, 1, 0] rfl)
  refine lv_istore_n (lv' := [(2, .int (0 : Int32)), (1, .int (0 : Int32)), (0, .ref a0)]) hx hb dX7_goodOfAll_3 rfl hl (by decide) rfl (fun ls hl => ?_)
  exact J4 _ (0 : Int32) (0 : Int32) _ _ (Nat.lt_succ_self _) (iv_w (iv_c (x := (0 : Int32)) (k := 0) (by decide)) (by decide)) (iv_w (iv_c (x := (0 : Int32)) (k := 0) (by decide)) (by decide))  hS (lv_sub hl [2, 1, 0] rfl)
set_option maxHeartbeats 4000000 in
set_option maxRecDepth 100000 in
theorem t_X7_draw (l : Launch) {D : va_G} {c0 : Nat → ClassId} {Y : Nat → Option Nat} {ν : Nat → Nat} {H : Heap} (hT : TI D vwCl (tysOf c0) (RTg ν) Y H) {a0 : Nat} (ha0 : Y a0 = some 7) : Met l yX7_draw (wz yX7_draw cX7_draw 1 (some .int)) { frames := 0, cells := 0, slots := 0, locals := 0 } (TP D vwCl (tysOf c0) H [.ref a0]) (TQi (fun x H' => TI D vwCl (tysOf c0) (RTg ν) Y H') Y [7]) 0 0 (pW Y [7]) := by
  refine Met.ofW (cc := cX7_draw) (maxL := 1) (ret := (some .int)) (by decide) rfl ?_
  intro p e s m args below meth c s₁ B hml hv
  obtain ⟨rfl, rfl, hK⟩ := hv
  have hx := B.exec
  have hb := B.bytes
  have hr := B.returns
  have hts : ∀ w ∈ wq, w.before _ s = true := fun w h => atoms_spec (ws := wz yX7_draw cX7_draw 1 (some .int)) B.pre w (List.mem_cons_of_mem _ h)
  have hown : s.vm.findClass RX7 = some m.cls := findClass_of_methodNamed B.named
  have hlocks := B.notSynchronized
  obtain ⟨R, hR⟩ : ∃ R : Room, R = ({ frames := 0, cells := 0, slots := 0, locals := 0 } : Room) := ⟨_, rfl⟩
  rw [show (headSpec (wz yX7_draw cX7_draw 1 (some .int)) { frames := 0, cells := 0, slots := 0, locals := 0 }).room = R from hR.symm]
  refine ti_mi hx hb hr hlocks (fun Q ret => ?_)
  have hl := lv_entry [.ref a0] (n := 1) (Nat.le_of_ble_eq_true rfl)
  rw [lg_entry_eq]
  generalize (lg_sl [.ref a0] ++ List.replicate (1 - (lg_sl [.ref a0]).length) Slot.unset).toArray = ls at hl ⊢
  have hl : lv_has ls 1 [(0, .ref a0)] := hl
  refine ti_gen (P := fun H => TI D vwCl (tysOf c0) (RTg ν) Y H) (Y := Y) (ws := [7]) hT (fun H locs hT hS => ?_)
  refine lv_aload_n hx hb dX7_draw_0 rfl (lv_at hl 0 rfl) ?_
  refine lv_ldc2 (v := 1103515245) hx hb hown (hts _ kw_693) dX7_draw_1 ?_
  have kj1103515245 : (1103515245 : Int64).toInt = 1103515245 := by decide
  refine lv_aload_n hx hb dX7_draw_4 rfl (lv_at hl 0 rfl) ?_
  refine ti_getl hx hb hts inlX7 hown hK hT ha0 rfl rfl rfl 5 (by decide) (hts _ kw_90) (fun _ h9 => h9) rfl dX7_draw_5 (fun v5 hm5 => ?_)
  refine lv_lmul hx hb dX7_draw_8 ?_
  refine lv_topl (fun v8 e8 => ?_)
  refine lv_ldc2 (v := 12345) hx hb hown (hts _ kw_694) dX7_draw_9 ?_
  have kj12345 : (12345 : Int64).toInt = 12345 := by decide
  refine lv_ladd hx hb dX7_draw_12 ?_
  refine lv_topl (fun v12 e12 => ?_)
  refine lv_ldc2 (v := 2147483648) hx hb hown (hts _ kw_695) dX7_draw_13 ?_
  have kj2147483648 : (2147483648 : Int64).toInt = 2147483648 := by decide
  refine lv_lrem hx hb dX7_draw_16 (lv_lne (jv_c (x := (2147483648 : Int64)) (k := 2147483648) (by decide)) (by decide)) ?_
  refine lv_topl (fun v16 e16 => ?_)
  refine ti_put (ty := .long) hx hb hts inlX7 tyX7 tyX7_ok nmX7 hown hK hT hS ha0 rfl rfl rfl rfl 5 (by decide) (hts _ kw_90) (fun _ h9 => h9) rfl rfl (by decide +kernel) rfl rfl ⟨v16, rfl⟩ (fun _ _ => trivial) dX7_draw_17 (fun H locs hT hS oq17 he17 hk17 => ?_)
  refine lv_aload_n hx hb dX7_draw_20 rfl (lv_at hl 0 rfl) ?_
  refine ti_getE (ci := 7) (v := .long v16) hx hb hts inlX7 hown hK he17 rfl (by decide) (hts _ kw_90) (fun _ h9 => h9) dX7_draw_21 ?_
  refine lv_ldc2 (v := 65536) hx hb hown (hts _ kw_696) dX7_draw_24 ?_
  have kj65536 : (65536 : Int64).toInt = 65536 := by decide
  refine lv_ldiv hx hb dX7_draw_27 (lv_lne (jv_c (x := (65536 : Int64)) (k := 65536) (by decide)) (by decide)) ?_
  refine lv_topl (fun v27 e27 => ?_)
  refine lv_ldc2 (v := 100) hx hb hown (hts _ kw_697) dX7_draw_28 ?_
  have kj100 : (100 : Int64).toInt = 100 := by decide
  refine lv_lrem hx hb dX7_draw_31 (lv_lne (jv_c (x := (100 : Int64)) (k := 100) (by decide)) (by decide)) ?_
  refine lv_topl (fun v31 e31 => ?_)
  refine lv_l2i hx hb dX7_draw_32 rfl ?_
  refine lv_topi (fun v32 e32 => ?_)
  have hv32 : iv v32 (-2147483648) 2147483647 := iv_top _
  exact ret _ _ _ _ _ dX7_draw_33 (hT) hS
set_option maxHeartbeats 4000000 in
set_option maxRecDepth 100000 in
theorem t_X7_findHidden (l : Launch) {D : va_G} {c0 : Nat → ClassId} {Y : Nat → Option Nat} {ν : Nat → Nat} {H : Heap} (hT : TI D vwCl (tysOf c0) (RTg ν) Y H) {a0 : Nat} (ha0 : Y a0 = some 7) : Met l yX7_findHidden (wz yX7_findHidden cX7_findHidden 3 none) { frames := 2, cells := 0, slots := 0, locals := 45 } (TP D vwCl (tysOf c0) H [.ref a0]) (TQv (fun H' => TI D vwCl (tysOf c0) (RTg ν) Y H') Y [3, 7]) 0 0 (pW Y [3, 7]) := by
  refine Met.ofW (cc := cX7_findHidden) (maxL := 3) (ret := none) (by decide) rfl ?_
  intro p e s m args below meth c s₁ B hml hv
  obtain ⟨rfl, rfl, hK⟩ := hv
  have hx := B.exec
  have hb := B.bytes
  have hr := B.returns
  have hts : ∀ w ∈ wq, w.before _ s = true := fun w h => atoms_spec (ws := wz yX7_findHidden cX7_findHidden 3 none) B.pre w (List.mem_cons_of_mem _ h)
  have hown : s.vm.findClass RX7 = some m.cls := findClass_of_methodNamed B.named
  have hlocks := B.notSynchronized
  obtain ⟨R, hR⟩ : ∃ R : Room, R = ({ frames := 2, cells := 0, slots := 0, locals := 45 } : Room) := ⟨_, rfl⟩
  rw [show (headSpec (wz yX7_findHidden cX7_findHidden 3 none) { frames := 2, cells := 0, slots := 0, locals := 45 }).room = R from hR.symm]
  refine ti_mv hx hb hr hlocks (fun Q ret => ?_)
  have hl := lv_entry [.ref a0] (n := 3) (Nat.le_of_ble_eq_true rfl)
  rw [lg_entry_eq]
  generalize (lg_sl [.ref a0] ++ List.replicate (3 - (lg_sl [.ref a0]).length) Slot.unset).toArray = ls at hl ⊢
  have hl : lv_has ls 3 [(0, .ref a0)] := hl
  refine ti_gen (P := fun H => TI D vwCl (tysOf c0) (RTg ν) Y H) (Y := Y) (ws := [3, 7]) hT (fun H locs hT hS => ?_)
  refine lv_iconst (v := 0) hx hb dX7_findHidden_0 (by decide) ?_
  have J2 : ∀ (n : Nat) (j2_L1 : Int32) (H : Heap) (locs : List Loc) (ls : Array Slot), (8 - j2_L1.toInt).toNat < n → iv j2_L1 0 8 → TI D vwCl (tysOf c0) (RTg ν) Y H → va_S (pW Y [3, 7]) s.heap H locs → lv_has ls 3 [(0, .ref a0), (1, .int j2_L1)] → W p l e R s m ([.ref a0] : List Value).toArray below meth c H locs 0 0 Q (F0 m 2 ls []) := by
    intro n
    induction n with
    | zero => intro j2_L1 H locs ls hms; exact absurd hms (Nat.not_lt_zero _)
    | succ n ih2 =>
      intro j2_L1 H locs ls hms2 hj2_L1 hT hS hl
      refine lv_iload_n hx hb dX7_findHidden_2 rfl (lv_at hl 1 rfl) ?_
      refine lv_aload_n hx hb dX7_findHidden_3 rfl (lv_at hl 0 rfl) ?_
      refine ti_geti hx hb hts inlX7 hown hK hT ha0 rfl rfl rfl 1 (by decide) (hts _ kw_86) (fun _ h9 => h9) rfl dX7_findHidden_4 (fun v4 hv4 hm4 => ?_)
      refine lv_icmp_ge (tgt := 82) hx hb dX7_findHidden_7 (by decide) (fun c7 => ?_) (fun c7 => ?_)
      · skip
        have f7 := i_le c7
        exact ret _ _ _ _ dX7_findHidden_82 (hT) hS
      · skip
        have f7 := i_nle c7
        have hj2_L1_7l : iv j2_L1 0 7 := iv_ltl hj2_L1 hv4 (Int32.not_le.mp c7) (by decide)
        have hv4_7r : iv v4 1 8 := iv_ltr hj2_L1_7l hv4 (Int32.not_le.mp c7) (by decide)
        refine lv_aload_n hx hb dX7_findHidden_10 rfl (lv_at hl 0 rfl) ?_
        refine ti_getr hx hb hts inlX7 hown hK hT ha0 rfl rfl rfl 8 (by decide) (hts _ kw_65) (fun _ h9 => h9) rfl dX7_findHidden_11 (fun v11 hv11 hm11 => ?_)
        refine lv_iload_n hx hb dX7_findHidden_14 rfl (lv_at hl 1 rfl) ?_
        refine ti_aald hx hb (aT6 hK) hT hv11 rfl hj2_L1_7l (by decide) (fun _ _ _ => rfl) dX7_findHidden_15 (fun v15 hv15 => ?_)
        refine lv_astore_n (lv' := [(2, .ref v15), (0, .ref a0), (1, .int j2_L1)]) hx hb dX7_findHidden_16 rfl hl (by decide) rfl (fun ls hl => ?_)
        refine lv_aload_n hx hb dX7_findHidden_17 rfl (lv_at hl 0 rfl) ?_
        refine ti_geti hx hb hts inlX3 hown hK hT hv15 rfl rfl rfl 1 (by decide) (hts _ kw_319) (fun _ h9 => h9) rfl dX7_findHidden_18 (fun v18 hv18 hm18 => ?_)
        have J76 : ∀  (H : Heap) (locs : List Loc) (ls : Array Slot), TI D vwCl (tysOf c0) (RTg ν) Y H → va_S (pW Y [3, 7]) s.heap H locs → lv_has ls 3 [(0, .ref a0), (1, .int j2_L1), (2, .ref v15)] → W p l e R s m ([.ref a0] : List Value).toArray below meth c H locs 0 0 Q (F0 m 76 ls []) := by
          intro  H locs ls  hT hS hl
          obtain ⟨v76, e76⟩ : ∃ y : Int32, y = j2_L1 + 1 := ⟨_, rfl⟩
          have hv76 : iv v76 1 8 := by rw [e76]; exact iv_w (iv_add hj2_L1_7l (iv_c (x := (1 : Int32)) (k := 1) (by decide)) (by decide)) (by decide)
          have s76 : v76.toInt = j2_L1.toInt + 1 := by rw [e76, iv_addE hj2_L1_7l (iv_c (x := (1 : Int32)) (k := 1) (by decide)) (by decide)]; rfl
          refine lv_iinc (v := v76) (lv' := [(1, .int v76), (0, .ref a0), (2, .ref v15)]) hx hb dX7_findHidden_76 hl (k := 1) rfl (by rw [e76]; rfl) (by decide) rfl (fun ls hl => ?_)
          refine lv_goto (tgt := 2) hx hb dX7_findHidden_79 (by decide) ?_
          exact ih2 v76 _ _ _ (ms_up hms2 (by have := s76; omega) (iv_w (c := 1) (d := 8) hv76 (by decide)).2) (iv_w hv76 (by decide)) hT hS (lv_sub hl [1, 0] rfl)
        refine lv_if_le (tgt := 76) hx hb dX7_findHidden_21 (by decide) (fun c21 => ?_) (fun c21 => ?_)
        · skip
          have kl0 : (0 : Int32).toInt = 0 := by decide
          have f21 := i_le c21
          have hv18_21l : iv v18 (-2147483648) 0 := iv_lel hv18 (iv_c (x := (0 : Int32)) (k := 0) (by decide)) c21 (by decide)
          exact J76  _ _ _   hT hS (lv_sub hl [1, 2, 0] rfl)
        · skip
          have kl0 : (0 : Int32).toInt = 0 := by decide
          have f21 := i_nle c21
          have hv18_21r : iv v18 1 2147483647 := iv_ltr (iv_c (x := (0 : Int32)) (k := 0) (by decide)) hv18 (Int32.not_le.mp c21) (by decide)
          refine lv_aload_n hx hb dX7_findHidden_24 rfl (lv_at hl 1 rfl) ?_
          refine ti_getr hx hb hts inlX7 hown hK hT ha0 rfl rfl rfl 6 (by decide) (hts _ kw_59) (fun _ h9 => h9) rfl dX7_findHidden_25 (fun v25 hv25 hm25 => ?_)
          refine ti_geti hx hb hts inlX0 hown hK hT hv25 rfl rfl rfl 4 (by decide) (hts _ kw_688) (fun _ h9 => h9) rfl dX7_findHidden_28 (fun v28 hv28 hm28 => ?_)
          refine lv_if_le (tgt := 76) hx hb dX7_findHidden_31 (by decide) (fun c31 => ?_) (fun c31 => ?_)
          · skip
            have f31 := i_le c31
            have hv28_31l : iv v28 (-2147483648) 0 := iv_lel hv28 (iv_c (x := (0 : Int32)) (k := 0) (by decide)) c31 (by decide)
            exact J76  _ _ _   hT hS (lv_sub hl [1, 2, 0] rfl)
          · skip
            have f31 := i_nle c31
            have hv28_31r : iv v28 1 2147483647 := iv_ltr (iv_c (x := (0 : Int32)) (k := 0) (by decide)) hv28 (Int32.not_le.mp c31) (by decide)
            refine lv_aload_n hx hb dX7_findHidden_34 rfl (lv_at hl 1 rfl) ?_
            refine ti_calli (va_runV (As := []) (rest := []) ⟨hx, hb, hml, hown, hts⟩ (t_X7_draw l hT ha0) (cwV 0 hts (good_V kw_689 kw_690 kw_691 kw_19 kw_692) rfl rfl rfl (by decide +kernel) ⟨by rw [hR]; decide, by rw [hR]; decide⟩) (ti_preV hK hT ha0 rfl rfl) rfl rfl hl.1 rfl (lv_room (Nat.le_of_ble_eq_true rfl)) dX7_findHidden_35 ⟨Nat.zero_le _, Nat.zero_le _⟩) hS (pW_sub rfl) (fun v35 H locs hB hS _ hk35 => ?_)
            have hT := hB
            refine lv_aload_n hx hb dX7_findHidden_38 rfl (lv_at hl 1 rfl) ?_
            refine ti_getr hx hb hts inlX7 hown hK hT ha0 rfl rfl rfl 6 (by decide) (hts _ kw_59) (fun _ h9 => h9) rfl dX7_findHidden_39 (fun v39 hv39 hm39 => ?_)
            refine ti_geti hx hb hts inlX0 hown hK hT hv39 rfl rfl rfl 4 (by decide) (hts _ kw_688) (fun _ h9 => h9) rfl dX7_findHidden_42 (fun v42 hv42 hm42 => ?_)
            refine lv_icmp_ge (tgt := 76) hx hb dX7_findHidden_45 (by decide) (fun c45 => ?_) (fun c45 => ?_)
            · skip
              have f45 := i_le c45
              exact J76  _ _ _   hT hS (lv_sub hl [1, 2, 0] rfl)
            · skip
              have f45 := i_nle c45
              have hv35_45l : iv v35 (-2147483648) 2147483646 := iv_ltl (iv_top v35) hv42 (Int32.not_le.mp c45) (by decide)
              have hv42_45r : iv v42 (-2147483647) 2147483647 := iv_ltr hv35_45l hv42 (Int32.not_le.mp c45) (by decide)
              refine lv_aload_n hx hb dX7_findHidden_48 rfl (lv_at hl 1 rfl) ?_
              refine lv_dup hx hb dX7_findHidden_49 rfl ?_
              refine ti_geti hx hb hts inlX7 hown hK hT ha0 rfl rfl rfl 3 (by decide) (hts _ kw_88) (fun _ h9 => h9) rfl dX7_findHidden_50 (fun v50 hv50 hm50 => ?_)
              refine lv_aload_n hx hb dX7_findHidden_53 rfl (lv_at hl 0 rfl) ?_
              refine ti_getE (ci := 3) (v := .int v18) hx hb hts inlX3 hown hK (hm18.call hk35 (pW_not hv15 rfl)) rfl (by decide) (hts _ kw_319) (fun _ h9 => h9) dX7_findHidden_54 ?_
              refine lv_iadd hx hb dX7_findHidden_57 ?_
              refine lv_topi (fun v57 e57 => ?_)
              have hv57 : iv v57 (-2147483648) 2147483647 := iv_top _
              refine ti_put (ty := .int) hx hb hts inlX7 tyX7 tyX7_ok nmX7 hown hK hT hS ha0 rfl rfl rfl rfl 3 (by decide) (hts _ kw_88) (fun _ h9 => h9) rfl rfl (by decide +kernel) rfl rfl ⟨v57, rfl, iv_w hv57 (by decide)⟩ (fun _ _ => trivial) dX7_findHidden_58 (fun H locs hT hS oq58 he58 hk58 => ?_)
              refine lv_aload_n hx hb dX7_findHidden_61 rfl (lv_at hl 1 rfl) ?_
              refine lv_iload_n hx hb dX7_findHidden_62 rfl (lv_at hl 2 rfl) ?_
              refine lv_aload_n hx hb dX7_findHidden_63 rfl (lv_at hl 0 rfl) ?_
              refine ti_getE (ci := 3) (v := .int v18) hx hb hts inlX3 hown hK ((hm18.call hk35 (pW_not hv15 rfl)).kept (oq58 _ (ne_r hv15 ha0 rfl))) rfl (by decide) (hts _ kw_319) (fun _ h9 => h9) dX7_findHidden_64 ?_
              refine lv_ineg hx hb dX7_findHidden_67 ?_
              refine lv_topi (fun v67 e67 => ?_)
              have hv67 : iv v67 (-2147483648) 2147483647 := iv_top _
              refine ti_callv (va_runV (As := [.int j2_L1, .int v67]) (rest := []) ⟨hx, hb, hml, hown, hts⟩ (t_X7_change l hT ha0 (iv_w hj2_L1_7l (by decide)) (iv_w hv67 (by decide))) (cwV 2 hts (good_V kw_698 kw_699 kw_700 kw_19 kw_701) rfl rfl rfl (by decide +kernel) ⟨by rw [hR]; decide, by rw [hR]; decide⟩) (ti_preV hK hT ha0 rfl rfl) rfl rfl hl.1 rfl (lv_room (Nat.le_of_ble_eq_true rfl)) dX7_findHidden_68 ⟨Nat.zero_le _, Nat.zero_le _⟩) hS (pW_sub rfl) (fun H locs hB hS _ hk68 => ?_)
              have hT := hB
              refine lv_aload_n hx hb dX7_findHidden_71 rfl (lv_at hl 0 rfl) ?_
              refine lv_iconst (v := 0) hx hb dX7_findHidden_72 (by decide) ?_
              refine ti_put (ty := .int) hx hb hts inlX3 tyX3 tyX3_ok nmX3 hown hK hT hS hv15 rfl rfl rfl rfl 1 (by decide) (hts _ kw_319) (fun _ h9 => h9) rfl rfl (by decide +kernel) rfl rfl ⟨(0 : Int32), rfl, iv_w (iv_c (x := (0 : Int32)) (k := 0) (by decide)) (by decide)⟩ (fun _ _ => trivial) dX7_findHidden_73 (fun H locs hT hS oq73 he73 hk73 => ?_)
              exact J76  _ _ _   hT hS (lv_sub hl [1, 2, 0] rfl)
  refine lv_istore_n (lv' := [(1, .int (0 : Int32)), (0, .ref a0)]) hx hb dX7_findHidden_1 rfl hl (by decide) rfl (fun ls hl => ?_)
  exact J2 _ (0 : Int32) _ _ _ (Nat.lt_succ_self _) (iv_w (iv_c (x := (0 : Int32)) (k := 0) (by decide)) (by decide)) hT hS (lv_sub hl [1, 0] rfl)
set_option maxHeartbeats 4000000 in
set_option maxRecDepth 100000 in
theorem t_X7_settleLoans (l : Launch) {D : va_G} {c0 : Nat → ClassId} {Y : Nat → Option Nat} {ν : Nat → Nat} {H : Heap} (hT : TI D vwCl (tysOf c0) (RTg ν) Y H) {a0 : Nat} (ha0 : Y a0 = some 7) : Met l yX7_settleLoans (wz yX7_settleLoans cX7_settleLoans 4 none) { frames := 2, cells := 0, slots := 0, locals := 60 } (TP D vwCl (tysOf c0) H [.ref a0]) (TQv (fun H' => TI D vwCl (tysOf c0) (RTg ν) Y H') Y [1, 3]) 0 0 (pW Y [1, 3]) := by
  refine Met.ofW (cc := cX7_settleLoans) (maxL := 4) (ret := none) (by decide) rfl ?_
  intro p e s m args below meth c s₁ B hml hv
  obtain ⟨rfl, rfl, hK⟩ := hv
  have hx := B.exec
  have hb := B.bytes
  have hr := B.returns
  have hts : ∀ w ∈ wq, w.before _ s = true := fun w h => atoms_spec (ws := wz yX7_settleLoans cX7_settleLoans 4 none) B.pre w (List.mem_cons_of_mem _ h)
  have hown : s.vm.findClass RX7 = some m.cls := findClass_of_methodNamed B.named
  have hlocks := B.notSynchronized
  obtain ⟨R, hR⟩ : ∃ R : Room, R = ({ frames := 2, cells := 0, slots := 0, locals := 60 } : Room) := ⟨_, rfl⟩
  rw [show (headSpec (wz yX7_settleLoans cX7_settleLoans 4 none) { frames := 2, cells := 0, slots := 0, locals := 60 }).room = R from hR.symm]
  refine ti_mv hx hb hr hlocks (fun Q ret => ?_)
  have hl := lv_entry [.ref a0] (n := 4) (Nat.le_of_ble_eq_true rfl)
  rw [lg_entry_eq]
  generalize (lg_sl [.ref a0] ++ List.replicate (4 - (lg_sl [.ref a0]).length) Slot.unset).toArray = ls at hl ⊢
  have hl : lv_has ls 4 [(0, .ref a0)] := hl
  refine ti_gen (P := fun H => TI D vwCl (tysOf c0) (RTg ν) Y H) (Y := Y) (ws := [1, 3]) hT (fun H locs hT hS => ?_)
  refine lv_iconst (v := 0) hx hb dX7_settleLoans_0 (by decide) ?_
  have J2 : ∀ (n : Nat) (j2_L1 : Int32) (H : Heap) (locs : List Loc) (ls : Array Slot), (6 - j2_L1.toInt).toNat < n → iv j2_L1 0 6 → TI D vwCl (tysOf c0) (RTg ν) Y H → va_S (pW Y [1, 3]) s.heap H locs → lv_has ls 4 [(0, .ref a0), (1, .int j2_L1)] → W p l e R s m ([.ref a0] : List Value).toArray below meth c H locs 0 0 Q (F0 m 2 ls []) := by
    intro n
    induction n with
    | zero => intro j2_L1 H locs ls hms; exact absurd hms (Nat.not_lt_zero _)
    | succ n ih2 =>
      intro j2_L1 H locs ls hms2 hj2_L1 hT hS hl
      refine lv_iload_n hx hb dX7_settleLoans_2 rfl (lv_at hl 1 rfl) ?_
      refine lv_aload_n hx hb dX7_settleLoans_3 rfl (lv_at hl 0 rfl) ?_
      refine ti_getr hx hb hts inlX7 hown hK hT ha0 rfl rfl rfl 7 (by decide) (hts _ kw_63) (fun _ h9 => h9) rfl dX7_settleLoans_4 (fun v4 hv4 hm4 => ?_)
      refine ti_geti hx hb hts inlX1 hown hK hT hv4 rfl rfl rfl 0 (by decide) (hts _ kw_91) (fun _ h9 => h9) rfl dX7_settleLoans_7 (fun v7 hv7 hm7 => ?_)
      refine lv_icmp_ge (tgt := 66) hx hb dX7_settleLoans_10 (by decide) (fun c10 => ?_) (fun c10 => ?_)
      · skip
        have f10 := i_le c10
        refine lv_aload_n hx hb dX7_settleLoans_66 rfl (lv_at hl 0 rfl) ?_
        refine ti_getE (ci := 7) (v := .ref v4) hx hb hts inlX7 hown hK hm4 rfl (by decide) (hts _ kw_63) (fun _ h9 => h9) dX7_settleLoans_67 ?_
        refine lv_iconst (v := 0) hx hb dX7_settleLoans_70 (by decide) ?_
        refine ti_put (ty := .int) hx hb hts inlX1 tyX1 tyX1_ok nmX1 hown hK hT hS hv4 rfl rfl rfl rfl 0 (by decide) (hts _ kw_91) (fun _ h9 => h9) rfl rfl (by decide +kernel) rfl rfl ⟨(0 : Int32), rfl, iv_w (iv_c (x := (0 : Int32)) (k := 0) (by decide)) (by decide)⟩ (fun _ _ => trivial) dX7_settleLoans_71 (fun H locs hT hS oq71 he71 hk71 => ?_)
        exact ret _ _ _ _ dX7_settleLoans_74 (hT) hS
      · skip
        have f10 := i_nle c10
        have hj2_L1_10l : iv j2_L1 0 5 := iv_ltl hj2_L1 hv7 (Int32.not_le.mp c10) (by decide)
        have hv7_10r : iv v7 1 6 := iv_ltr hj2_L1_10l hv7 (Int32.not_le.mp c10) (by decide)
        refine lv_aload_n hx hb dX7_settleLoans_13 rfl (lv_at hl 0 rfl) ?_
        refine ti_getE (ci := 7) (v := .ref v4) hx hb hts inlX7 hown hK hm4 rfl (by decide) (hts _ kw_63) (fun _ h9 => h9) dX7_settleLoans_14 ?_
        refine ti_getr hx hb hts inlX1 hown hK hT hv4 rfl rfl rfl 2 (by decide) (hts _ kw_707) (fun _ h9 => h9) rfl dX7_settleLoans_17 (fun v17 hv17 hm17 => ?_)
        refine lv_iload_n hx hb dX7_settleLoans_20 rfl (lv_at hl 1 rfl) ?_
        refine ti_iald (lo := 0) (hi := 7) hx hb (aT0 hK) hT hv17 rfl hj2_L1_10l (by decide) (fun _ _ _ => ⟨_, _, rfl, by decide, by decide⟩) dX7_settleLoans_21 (fun v21 hv21 hm21 => ?_)
        refine lv_istore_n (lv' := [(2, .int v21), (0, .ref a0), (1, .int j2_L1)]) hx hb dX7_settleLoans_22 rfl hl (by decide) rfl (fun ls hl => ?_)
        refine lv_aload_n hx hb dX7_settleLoans_23 rfl (lv_at hl 1 rfl) ?_
        refine ti_getE (ci := 7) (v := .ref v4) hx hb hts inlX7 hown hK hm4 rfl (by decide) (hts _ kw_63) (fun _ h9 => h9) dX7_settleLoans_24 ?_
        refine ti_getr hx hb hts inlX1 hown hK hT hv4 rfl rfl rfl 3 (by decide) (hts _ kw_708) (fun _ h9 => h9) rfl dX7_settleLoans_27 (fun v27 hv27 hm27 => ?_)
        refine lv_iload_n hx hb dX7_settleLoans_30 rfl (lv_at hl 2 rfl) ?_
        refine ti_iald (lo := (-2147483648)) (hi := 2147483647) hx hb (aT0 hK) hT hv27 rfl hj2_L1_10l (by decide) (fun _ _ _ => ⟨_, _, rfl, by decide, by decide⟩) dX7_settleLoans_31 (fun v31 hv31 hm31 => ?_)
        refine lv_aload_n hx hb dX7_settleLoans_32 rfl (lv_at hl 1 rfl) ?_
        refine ti_getr hx hb hts inlX7 hown hK hT ha0 rfl rfl rfl 8 (by decide) (hts _ kw_65) (fun _ h9 => h9) rfl dX7_settleLoans_33 (fun v33 hv33 hm33 => ?_)
        refine lv_iload_n hx hb dX7_settleLoans_36 rfl (lv_at hl 0 rfl) ?_
        refine ti_aald hx hb (aT6 hK) hT hv33 rfl hv21 (by decide) (fun _ _ _ => rfl) dX7_settleLoans_37 (fun v37 hv37 => ?_)
        refine ti_geti hx hb hts inlX3 hown hK hT hv37 rfl rfl rfl 0 (by decide) (hts _ kw_702) (fun _ h9 => h9) rfl dX7_settleLoans_38 (fun v38 hv38 hm38 => ?_)
        refine va_mmin hx hb (by rw [hml]; exact hl.1.symm) hown (hts _ kw_709) (hts _ kw_211) (hts _ kw_212) (hts _ kw_213) (by rw [hR]; decide) (by rw [hR]; exact Nat.le_of_ble_eq_true rfl) (Nat.zero_le _) (Nat.zero_le _) dX7_settleLoans_41 ?_
        refine lv_topi (fun v41 e41 => ?_)
        have hv41 : iv v41 (-2147483648) 100000 := by rw [e41]; exact iv_min hv31 hv38 (by decide)
        refine lv_istore_n (lv' := [(3, .int v41), (2, .int v21), (0, .ref a0), (1, .int j2_L1)]) hx hb dX7_settleLoans_44 rfl hl (by decide) rfl (fun ls hl => ?_)
        refine lv_aload_n hx hb dX7_settleLoans_45 rfl (lv_at hl 2 rfl) ?_
        refine lv_iload_n hx hb dX7_settleLoans_46 rfl (lv_at hl 1 rfl) ?_
        refine lv_aload_n hx hb dX7_settleLoans_47 rfl (lv_at hl 2 rfl) ?_
        refine ti_getE (ci := 7) (v := .ref v4) hx hb hts inlX7 hown hK hm4 rfl (by decide) (hts _ kw_63) (fun _ h9 => h9) dX7_settleLoans_48 ?_
        refine ti_getr hx hb hts inlX1 hown hK hT hv4 rfl rfl rfl 1 (by decide) (hts _ kw_710) (fun _ h9 => h9) rfl dX7_settleLoans_51 (fun v51 hv51 hm51 => ?_)
        refine lv_iload_n hx hb dX7_settleLoans_54 rfl (lv_at hl 3 rfl) ?_
        refine ti_iald (lo := 0) (hi := 7) hx hb (aT0 hK) hT hv51 rfl hj2_L1_10l (by decide) (fun _ _ _ => ⟨_, _, rfl, by decide, by decide⟩) dX7_settleLoans_55 (fun v55 hv55 hm55 => ?_)
        refine lv_iload_n hx hb dX7_settleLoans_56 rfl (lv_at hl 0 rfl) ?_
        refine ti_callv (va_runV (As := [.int v21, .int v55, .int v41]) (rest := []) ⟨hx, hb, hml, hown, hts⟩ (t_X7_hand l hT ha0 (iv_w hv21 (by decide)) (iv_w hv55 (by decide)) (iv_w hv41 (by decide))) (cwV 3 hts (good_V kw_711 kw_712 kw_713 kw_19 kw_714) rfl rfl rfl (by decide +kernel) ⟨by rw [hR]; decide, by rw [hR]; decide⟩) (ti_preV hK hT ha0 rfl rfl) rfl rfl hl.1 rfl (lv_room (Nat.le_of_ble_eq_true rfl)) dX7_settleLoans_57 ⟨Nat.zero_le _, Nat.zero_le _⟩) hS (pW_sub rfl) (fun H locs hB hS _ hk57 => ?_)
        have hT := hB
        obtain ⟨v60, e60⟩ : ∃ y : Int32, y = j2_L1 + 1 := ⟨_, rfl⟩
        have hv60 : iv v60 1 6 := by rw [e60]; exact iv_w (iv_add hj2_L1_10l (iv_c (x := (1 : Int32)) (k := 1) (by decide)) (by decide)) (by decide)
        have s60 : v60.toInt = j2_L1.toInt + 1 := by rw [e60, iv_addE hj2_L1_10l (iv_c (x := (1 : Int32)) (k := 1) (by decide)) (by decide)]; rfl
        refine lv_iinc (v := v60) (lv' := [(1, .int v60), (3, .int v41), (2, .int v21), (0, .ref a0)]) hx hb dX7_settleLoans_60 hl (k := 3) rfl (by rw [e60]; rfl) (by decide) rfl (fun ls hl => ?_)
        refine lv_goto (tgt := 2) hx hb dX7_settleLoans_63 (by decide) ?_
        exact ih2 v60 _ _ _ (ms_up hms2 (by have := s60; omega) (iv_w (c := 1) (d := 6) hv60 (by decide)).2) (iv_w hv60 (by decide)) hT hS (lv_sub hl [3, 0] rfl)
  refine lv_istore_n (lv' := [(1, .int (0 : Int32)), (0, .ref a0)]) hx hb dX7_settleLoans_1 rfl hl (by decide) rfl (fun ls hl => ?_)
  exact J2 _ (0 : Int32) _ _ _ (Nat.lt_succ_self _) (iv_w (iv_c (x := (0 : Int32)) (k := 0) (by decide)) (by decide)) hT hS (lv_sub hl [1, 0] rfl)
set_option maxHeartbeats 4000000 in
set_option maxRecDepth 100000 in
theorem t_X7_strikeOn (l : Launch) {D : va_G} {c0 : Nat → ClassId} {Y : Nat → Option Nat} {ν : Nat → Nat} {H : Heap} (hT : TI D vwCl (tysOf c0) (RTg ν) Y H) {a0 : Nat} (ha0 : Y a0 = some 7) {a1 : Nat} (ha1 : Y a1 = some 4) : Met l yX7_strikeOn (wz yX7_strikeOn cX7_strikeOn 3 none) { frames := 3, cells := 0, slots := 0, locals := 83 } (TP D vwCl (tysOf c0) H [.ref a0, .ref a1]) (TQv (fun H' => TI D vwCl (tysOf c0) (RTg ν) Y H') Y [1, 3, 4, 7, 29]) 0 0 (pW Y [1, 3, 4, 7, 29]) := by
  refine Met.ofW (cc := cX7_strikeOn) (maxL := 3) (ret := none) (by decide) rfl ?_
  intro p e s m args below meth c s₁ B hml hv
  obtain ⟨rfl, rfl, hK⟩ := hv
  have hx := B.exec
  have hb := B.bytes
  have hr := B.returns
  have hts : ∀ w ∈ wq, w.before _ s = true := fun w h => atoms_spec (ws := wz yX7_strikeOn cX7_strikeOn 3 none) B.pre w (List.mem_cons_of_mem _ h)
  have hown : s.vm.findClass RX7 = some m.cls := findClass_of_methodNamed B.named
  have hlocks := B.notSynchronized
  obtain ⟨R, hR⟩ : ∃ R : Room, R = ({ frames := 3, cells := 0, slots := 0, locals := 83 } : Room) := ⟨_, rfl⟩
  rw [show (headSpec (wz yX7_strikeOn cX7_strikeOn 3 none) { frames := 3, cells := 0, slots := 0, locals := 83 }).room = R from hR.symm]
  refine ti_mv hx hb hr hlocks (fun Q ret => ?_)
  have hl := lv_entry [.ref a0, .ref a1] (n := 3) (Nat.le_of_ble_eq_true rfl)
  rw [lg_entry_eq]
  generalize (lg_sl [.ref a0, .ref a1] ++ List.replicate (3 - (lg_sl [.ref a0, .ref a1]).length) Slot.unset).toArray = ls at hl ⊢
  have hl : lv_has ls 3 [(0, .ref a0), (1, .ref a1)] := hl
  refine ti_gen (P := fun H => TI D vwCl (tysOf c0) (RTg ν) Y H) (Y := Y) (ws := [1, 3, 4, 7, 29]) hT (fun H locs hT hS => ?_)
  refine lv_aload_n hx hb dX7_strikeOn_0 rfl (lv_at hl 1 rfl) ?_
  refine lv_aload_n hx hb dX7_strikeOn_1 rfl (lv_at hl 0 rfl) ?_
  refine ti_callv (va_runV (As := [.ref a0]) (rest := []) ⟨hx, hb, hml, hown, hts⟩ (t_X4_load l hT ha1 ha0) (cwV 1 hts (good_V kw_667 kw_577 kw_578 kw_29 kw_579) rfl rfl rfl (by decide +kernel) ⟨by rw [hR]; decide, by rw [hR]; decide⟩) (ti_preV hK hT ha1 rfl rfl) rfl rfl hl.1 rfl (lv_room (Nat.le_of_ble_eq_true rfl)) dX7_strikeOn_2 ⟨Nat.zero_le _, Nat.zero_le _⟩) hS (pW_sub rfl) (fun H locs hB hS _ hk2 => ?_)
  have hT := hB
  refine lv_aload_n hx hb dX7_strikeOn_5 rfl (lv_at hl 1 rfl) ?_
  refine lv_aload_n hx hb dX7_strikeOn_6 rfl (lv_at hl 0 rfl) ?_
  refine ti_getr hx hb hts inlX7 hown hK hT ha0 rfl rfl rfl 6 (by decide) (hts _ kw_59) (fun _ h9 => h9) rfl dX7_strikeOn_7 (fun v7 hv7 hm7 => ?_)
  refine ti_callv (va_runV (As := [.ref v7]) (rest := []) ⟨hx, hb, hml, hown, hts⟩ (t_X4_strike l hT ha1 hv7) (cwV 1 hts (good_V kw_668 kw_669 kw_670 kw_29 kw_671) rfl rfl rfl (by decide +kernel) ⟨by rw [hR]; decide, by rw [hR]; decide⟩) (ti_preV hK hT ha1 rfl rfl) rfl rfl hl.1 rfl (lv_room (Nat.le_of_ble_eq_true rfl)) dX7_strikeOn_10 ⟨Nat.zero_le _, Nat.zero_le _⟩) hS (pW_sub rfl) (fun H locs hB hS _ hk10 => ?_)
  have hT := hB
  refine lv_iconst (v := 0) hx hb dX7_strikeOn_13 (by decide) ?_
  have J15 : ∀ (n : Nat) (j15_L2 : Int32) (H : Heap) (locs : List Loc) (ls : Array Slot), (8 - j15_L2.toInt).toNat < n → iv j15_L2 0 8 → TI D vwCl (tysOf c0) (RTg ν) Y H → va_S (pW Y [1, 3, 4, 7, 29]) s.heap H locs → lv_has ls 3 [(0, .ref a0), (1, .ref a1), (2, .int j15_L2)] → W p l e R s m ([.ref a0, .ref a1] : List Value).toArray below meth c H locs 0 0 Q (F0 m 15 ls []) := by
    intro n
    induction n with
    | zero => intro j15_L2 H locs ls hms; exact absurd hms (Nat.not_lt_zero _)
    | succ n ih15 =>
      intro j15_L2 H locs ls hms15 hj15_L2 hT hS hl
      refine lv_iload_n hx hb dX7_strikeOn_15 rfl (lv_at hl 2 rfl) ?_
      refine lv_aload_n hx hb dX7_strikeOn_16 rfl (lv_at hl 0 rfl) ?_
      refine ti_geti hx hb hts inlX7 hown hK hT ha0 rfl rfl rfl 1 (by decide) (hts _ kw_86) (fun _ h9 => h9) rfl dX7_strikeOn_17 (fun v17 hv17 hm17 => ?_)
      refine lv_icmp_ge (tgt := 48) hx hb dX7_strikeOn_20 (by decide) (fun c20 => ?_) (fun c20 => ?_)
      · skip
        have f20 := i_le c20
        refine lv_aload_n hx hb dX7_strikeOn_48 rfl (lv_at hl 0 rfl) ?_
        refine lv_aload_n hx hb dX7_strikeOn_49 rfl (lv_at hl 1 rfl) ?_
        refine ti_geti hx hb hts inlX4 hown hK hT ha1 rfl rfl rfl 2 (by decide) (hts _ kw_666) (fun _ h9 => h9) rfl dX7_strikeOn_50 (fun v50 hv50 hm50 => ?_)
        refine ti_put (ty := .int) hx hb hts inlX7 tyX7 tyX7_ok nmX7 hown hK hT hS ha0 rfl rfl rfl rfl 3 (by decide) (hts _ kw_88) (fun _ h9 => h9) rfl rfl (by decide +kernel) rfl rfl ⟨v50, rfl, iv_w hv50 (by decide)⟩ (fun _ _ => trivial) dX7_strikeOn_53 (fun H locs hT hS oq53 he53 hk53 => ?_)
        refine lv_aload_n hx hb dX7_strikeOn_56 rfl (lv_at hl 0 rfl) ?_
        refine ti_callv (va_runV (As := []) (rest := []) ⟨hx, hb, hml, hown, hts⟩ (t_X7_findHidden l hT ha0) (cwV 0 hts (good_V kw_684 kw_685 kw_686 kw_19 kw_687) rfl rfl rfl (by decide +kernel) ⟨by rw [hR]; decide, by rw [hR]; decide⟩) (ti_preV hK hT ha0 rfl rfl) rfl rfl hl.1 rfl (lv_room (Nat.le_of_ble_eq_true rfl)) dX7_strikeOn_57 ⟨Nat.zero_le _, Nat.zero_le _⟩) hS (pW_sub rfl) (fun H locs hB hS _ hk57 => ?_)
        have hT := hB
        refine lv_aload_n hx hb dX7_strikeOn_60 rfl (lv_at hl 0 rfl) ?_
        refine ti_callv (va_runV (As := []) (rest := []) ⟨hx, hb, hml, hown, hts⟩ (t_X7_settleLoans l hT ha0) (cwV 0 hts (good_V kw_703 kw_704 kw_705 kw_19 kw_706) rfl rfl rfl (by decide +kernel) ⟨by rw [hR]; decide, by rw [hR]; decide⟩) (ti_preV hK hT ha0 rfl rfl) rfl rfl hl.1 rfl (lv_room (Nat.le_of_ble_eq_true rfl)) dX7_strikeOn_61 ⟨Nat.zero_le _, Nat.zero_le _⟩) hS (pW_sub rfl) (fun H locs hB hS _ hk61 => ?_)
        have hT := hB
        exact ret _ _ _ _ dX7_strikeOn_64 (hT) hS
      · skip
        have f20 := i_nle c20
        have hj15_L2_20l : iv j15_L2 0 7 := iv_ltl hj15_L2 hv17 (Int32.not_le.mp c20) (by decide)
        have hv17_20r : iv v17 1 8 := iv_ltr hj15_L2_20l hv17 (Int32.not_le.mp c20) (by decide)
        refine lv_aload_n hx hb dX7_strikeOn_23 rfl (lv_at hl 0 rfl) ?_
        refine ti_getr hx hb hts inlX7 hown hK hT ha0 rfl rfl rfl 8 (by decide) (hts _ kw_65) (fun _ h9 => h9) rfl dX7_strikeOn_24 (fun v24 hv24 hm24 => ?_)
        refine lv_iload_n hx hb dX7_strikeOn_27 rfl (lv_at hl 2 rfl) ?_
        refine ti_aald hx hb (aT6 hK) hT hv24 rfl hj15_L2_20l (by decide) (fun _ _ _ => rfl) dX7_strikeOn_28 (fun v28 hv28 => ?_)
        refine lv_aload_n hx hb dX7_strikeOn_29 rfl (lv_at hl 1 rfl) ?_
        refine ti_getr hx hb hts inlX4 hown hK hT ha1 rfl rfl rfl 3 (by decide) (hts _ kw_665) (fun _ h9 => h9) rfl dX7_strikeOn_30 (fun v30 hv30 hm30 => ?_)
        refine lv_iload_n hx hb dX7_strikeOn_33 rfl (lv_at hl 2 rfl) ?_
        refine ti_iald (lo := (-2147483648)) (hi := 2147483647) hx hb (aT0 hK) hT hv30 rfl hj15_L2_20l (by decide) (fun _ _ _ => ⟨_, _, rfl, by decide, by decide⟩) dX7_strikeOn_34 (fun v34 hv34 hm34 => ?_)
        refine lv_aload_n hx hb dX7_strikeOn_35 rfl (lv_at hl 0 rfl) ?_
        refine ti_geti hx hb hts inlX7 hown hK hT ha0 rfl rfl rfl 0 (by decide) (hts _ kw_85) (fun _ h9 => h9) rfl dX7_strikeOn_36 (fun v36 hv36 hm36 => ?_)
        refine ti_callv (va_runV (As := [.int v34, .int v36]) (rest := []) ⟨hx, hb, hml, hown, hts⟩ (t_X3_setHas l hT hv28 (iv_w hv34 (by decide)) (iv_w hv36 (by decide))) (cwV 2 hts (good_V kw_683 kw_500 kw_501 kw_68 kw_502) rfl rfl rfl (by decide +kernel) ⟨by rw [hR]; decide, by rw [hR]; decide⟩) (ti_preV hK hT hv28 rfl rfl) rfl rfl hl.1 rfl (lv_room (Nat.le_of_ble_eq_true rfl)) dX7_strikeOn_39 ⟨Nat.zero_le _, Nat.zero_le _⟩) hS (pW_sub rfl) (fun H locs hB hS _ hk39 => ?_)
        have hT := hB
        obtain ⟨v42, e42⟩ : ∃ y : Int32, y = j15_L2 + 1 := ⟨_, rfl⟩
        have hv42 : iv v42 1 8 := by rw [e42]; exact iv_w (iv_add hj15_L2_20l (iv_c (x := (1 : Int32)) (k := 1) (by decide)) (by decide)) (by decide)
        have s42 : v42.toInt = j15_L2.toInt + 1 := by rw [e42, iv_addE hj15_L2_20l (iv_c (x := (1 : Int32)) (k := 1) (by decide)) (by decide)]; rfl
        refine lv_iinc (v := v42) (lv' := [(2, .int v42), (0, .ref a0), (1, .ref a1)]) hx hb dX7_strikeOn_42 hl (k := 2) rfl (by rw [e42]; rfl) (by decide) rfl (fun ls hl => ?_)
        refine lv_goto (tgt := 15) hx hb dX7_strikeOn_45 (by decide) ?_
        exact ih15 v42 _ _ _ (ms_up hms15 (by have := s42; omega) (iv_w (c := 1) (d := 8) hv42 (by decide)).2) (iv_w hv42 (by decide)) hT hS (lv_sub hl [1, 2, 0] rfl)
  refine lv_istore_n (lv' := [(2, .int (0 : Int32)), (0, .ref a0), (1, .ref a1)]) hx hb dX7_strikeOn_14 rfl hl (by decide) rfl (fun ls hl => ?_)
  exact J15 _ (0 : Int32) _ _ _ (Nat.lt_succ_self _) (iv_w (iv_c (x := (0 : Int32)) (k := 0) (by decide)) (by decide)) hT hS (lv_sub hl [1, 2, 0] rfl)
set_option maxHeartbeats 4000000 in
set_option maxRecDepth 100000 in
theorem t_X8_match (l : Launch) {D : va_G} {c0 : Nat → ClassId} {Y : Nat → Option Nat} {ν : Nat → Nat} {H : Heap} (hT : TI D vwCl (tysOf c0) (RTg ν) Y H) {a0 : Nat} (ha0 : Y a0 = some 8) {a1 : Nat} (ha1 : Y a1 = some 7) {x2 : Int32} (hx2 : iv x2 0 7) : Met l yX8_match (wz yX8_match cX8_match 6 none) { frames := 3, cells := 0, slots := 0, locals := 83 } (TP D vwCl (tysOf c0) H [.ref a0, .ref a1, .int x2]) (TQv (fun H' => TI D vwCl (tysOf c0) (RTg ν) Y H') Y [3]) 0 0 (pW Y [3]) := by
  refine Met.ofW (cc := cX8_match) (maxL := 6) (ret := none) (by decide) rfl ?_
  intro p e s m args below meth c s₁ B hml hv
  obtain ⟨rfl, rfl, hK⟩ := hv
  have hx := B.exec
  have hb := B.bytes
  have hr := B.returns
  have hts : ∀ w ∈ wq, w.before _ s = true := fun w h => atoms_spec (ws := wz yX8_match cX8_match 6 none) B.pre w (List.mem_cons_of_mem _ h)
  have hown : s.vm.findClass RX8 = some m.cls := findClass_of_methodNamed B.named
  have hlocks := B.notSynchronized
  obtain ⟨R, hR⟩ : ∃ R : Room, R = ({ frames := 3, cells := 0, slots := 0, locals := 83 } : Room) := ⟨_, rfl⟩
  rw [show (headSpec (wz yX8_match cX8_match 6 none) { frames := 3, cells := 0, slots := 0, locals := 83 }).room = R from hR.symm]
  refine ti_mv hx hb hr hlocks (fun Q ret => ?_)
  have hl := lv_entry [.ref a0, .ref a1, .int x2] (n := 6) (Nat.le_of_ble_eq_true rfl)
  rw [lg_entry_eq]
  generalize (lg_sl [.ref a0, .ref a1, .int x2] ++ List.replicate (6 - (lg_sl [.ref a0, .ref a1, .int x2]).length) Slot.unset).toArray = ls at hl ⊢
  have hl : lv_has ls 6 [(0, .ref a0), (1, .ref a1), (2, .int x2)] := hl
  refine ti_gen (P := fun H => TI D vwCl (tysOf c0) (RTg ν) Y H) (Y := Y) (ws := [3]) hT (fun H locs hT hS => ?_)
  refine lv_aload_n hx hb dX8_match_0 rfl (lv_at hl 1 rfl) ?_
  refine lv_iload_n hx hb dX8_match_1 rfl (lv_at hl 2 rfl) ?_
  refine ti_calli (va_runV (As := [.int x2]) (rest := []) ⟨hx, hb, hml, hown, hts⟩ (t_X7_topFor l hT ha1 (iv_w hx2 (by decide))) (cwV 1 hts (good_V kw_913 kw_914 kw_915 kw_19 kw_916) rfl rfl rfl (by decide +kernel) ⟨by rw [hR]; decide, by rw [hR]; decide⟩) (ti_preV hK hT ha1 rfl rfl) rfl rfl hl.1 rfl (lv_room (Nat.le_of_ble_eq_true rfl)) dX8_match_2 ⟨Nat.zero_le _, Nat.zero_le _⟩) hS (pW_sub rfl) (fun v2 H1 locs hB hS _ hk2 => ?_)
  obtain ⟨hH, hv2⟩ := hB
  rw [hH] at hS ⊢
  refine lv_istore_n (lv' := [(3, .int v2), (0, .ref a0), (1, .ref a1), (2, .int x2)]) hx hb dX8_match_5 rfl hl (by decide) rfl (fun ls hl => ?_)
  refine lv_aload_n hx hb dX8_match_6 rfl (lv_at hl 2 rfl) ?_
  refine ti_getr hx hb hts inlX7 hown hK hT ha1 rfl rfl rfl 8 (by decide) (hts _ kw_848) (fun _ h9 => h9) rfl dX8_match_7 (fun v7 hv7 hm7 => ?_)
  refine lv_iload_n hx hb dX8_match_10 rfl (lv_at hl 3 rfl) ?_
  refine ti_aald hx hb (aT6 hK) hT hv7 rfl hx2 (by decide) (fun _ _ _ => rfl) dX8_match_11 (fun v11 hv11 => ?_)
  refine ti_calli (va_runV (As := []) (rest := []) ⟨hx, hb, hml, hown, hts⟩ (t_X3_shown l hT hv11) (cwV 0 hts (good_V kw_912 kw_538 kw_539 kw_68 kw_540) rfl rfl rfl (by decide +kernel) ⟨by rw [hR]; decide, by rw [hR]; decide⟩) (ti_preV hK hT hv11 rfl rfl) rfl rfl hl.1 rfl (lv_room (Nat.le_of_ble_eq_true rfl)) dX8_match_12 ⟨Nat.zero_le _, Nat.zero_le _⟩) hS (pW_sub rfl) (fun v12 H1 locs hB hS _ hk12 => ?_)
  have hH := hB
  rw [hH] at hS ⊢
  refine lv_iload_n hx hb dX8_match_15 rfl (lv_at hl 0 rfl) ?_
  refine lv_isub hx hb dX8_match_16 ?_
  refine lv_topi (fun v16 e16 => ?_)
  have hv16 : iv v16 (-2147483648) 2147483647 := iv_top _
  refine lv_istore (lv' := [(4, .int v16), (3, .int v2), (0, .ref a0), (1, .ref a1), (2, .int x2)]) hx hb dX8_match_17 hl (by decide) rfl (fun ls hl => ?_)
  refine lv_iconst (v := 0) hx hb dX8_match_19 (by decide) ?_
  have J22 : ∀ (n : Nat) (j22_L4 : Int32) (j22_L5 : Int32) (H : Heap) (locs : List Loc) (ls : Array Slot), (8 - j22_L5.toInt).toNat < n → iv j22_L4 (-2147483648) 2147483647 → iv j22_L5 0 8 → TI D vwCl (tysOf c0) (RTg ν) Y H → va_S (pW Y [3]) s.heap H locs → lv_has ls 6 [(0, .ref a0), (1, .ref a1), (2, .int x2), (3, .int v2), (4, .int j22_L4), (5, .int j22_L5)] → W p l e R s m ([.ref a0, .ref a1, .int x2] : List Value).toArray below meth c H locs 0 0 Q (F0 m 22 ls []) := by
    intro n
    induction n with
    | zero => intro j22_L4 j22_L5 H locs ls hms; exact absurd hms (Nat.not_lt_zero _)
    | succ n ih22 =>
      intro j22_L4 j22_L5 H locs ls hms22 hj22_L4 hj22_L5 hT hS hl
      refine lv_iload hx hb dX8_match_22 (lv_at hl 5 rfl) ?_
      refine lv_aload_n hx hb dX8_match_24 rfl (lv_at hl 1 rfl) ?_
      refine ti_geti hx hb hts inlX7 hown hK hT ha1 rfl rfl rfl 1 (by decide) (hts _ kw_846) (fun _ h9 => h9) rfl dX8_match_25 (fun v25 hv25 hm25 => ?_)
      refine lv_icmp_ge (tgt := 73) hx hb dX8_match_28 (by decide) (fun c28 => ?_) (fun c28 => ?_)
      · skip
        have f28 := i_le c28
        exact ret _ _ _ _ dX8_match_73 (hT) hS
      · skip
        have f28 := i_nle c28
        have hj22_L5_28l : iv j22_L5 0 7 := iv_ltl hj22_L5 hv25 (Int32.not_le.mp c28) (by decide)
        have hv25_28r : iv v25 1 8 := iv_ltr hj22_L5_28l hv25 (Int32.not_le.mp c28) (by decide)
        refine lv_iload hx hb dX8_match_31 (lv_at hl 4 rfl) ?_
        refine lv_if_le (tgt := 73) hx hb dX8_match_33 (by decide) (fun c33 => ?_) (fun c33 => ?_)
        · skip
          have kl0 : (0 : Int32).toInt = 0 := by decide
          have f33 := i_le c33
          have hj22_L4_33l : iv j22_L4 (-2147483648) 0 := iv_lel hj22_L4 (iv_c (x := (0 : Int32)) (k := 0) (by decide)) c33 (by decide)
          exact ret _ _ _ _ dX8_match_73 (hT) hS
        · skip
          have kl0 : (0 : Int32).toInt = 0 := by decide
          have f33 := i_nle c33
          have hj22_L4_33r : iv j22_L4 1 2147483647 := iv_ltr (iv_c (x := (0 : Int32)) (k := 0) (by decide)) hj22_L4 (Int32.not_le.mp c33) (by decide)
          refine lv_iload hx hb dX8_match_36 (lv_at hl 5 rfl) ?_
          refine lv_iload_n hx hb dX8_match_38 rfl (lv_at hl 2 rfl) ?_
          have J67 : ∀ (j67_L4 : Int32) (H : Heap) (locs : List Loc) (ls : Array Slot), iv j67_L4 0 2147483647 → TI D vwCl (tysOf c0) (RTg ν) Y H → va_S (pW Y [3]) s.heap H locs → lv_has ls 6 [(0, .ref a0), (1, .ref a1), (2, .int x2), (3, .int v2), (4, .int j67_L4), (5, .int j22_L5)] → W p l e R s m ([.ref a0, .ref a1, .int x2] : List Value).toArray below meth c H locs 0 0 Q (F0 m 67 ls []) := by
            intro j67_L4 H locs ls hj67_L4 hT hS hl
            obtain ⟨v67, e67⟩ : ∃ y : Int32, y = j22_L5 + 1 := ⟨_, rfl⟩
            have hv67 : iv v67 1 8 := by rw [e67]; exact iv_w (iv_add hj22_L5_28l (iv_c (x := (1 : Int32)) (k := 1) (by decide)) (by decide)) (by decide)
            have s67 : v67.toInt = j22_L5.toInt + 1 := by rw [e67, iv_addE hj22_L5_28l (iv_c (x := (1 : Int32)) (k := 1) (by decide)) (by decide)]; rfl
            refine lv_iinc (v := v67) (lv' := [(5, .int v67), (0, .ref a0), (1, .ref a1), (2, .int x2), (3, .int v2), (4, .int j67_L4)]) hx hb dX8_match_67 hl (k := 5) rfl (by rw [e67]; rfl) (by decide) rfl (fun ls hl => ?_)
            refine lv_goto (tgt := 22) hx hb dX8_match_70 (by decide) ?_
            exact ih22 j67_L4 v67 _ _ _ (ms_up hms22 (by have := s67; omega) (iv_w (c := 1) (d := 8) hv67 (by decide)).2) (iv_w hj67_L4 (by decide)) (iv_w hv67 (by decide)) hT hS (lv_sub hl [1, 2, 3, 4, 5, 0] rfl)
          refine lv_icmp_eq (tgt := 67) hx hb dX8_match_39 (by decide) (fun c39 => ?_) (fun c39 => ?_)
          · skip
            have f39 := i_eq c39
            exact J67 j22_L4 _ _ _  (iv_w hj22_L4_33r (by decide)) hT hS (lv_sub hl [0, 1, 2, 3, 4, 5] rfl)
          · skip
            have f39 := i_ne c39
            refine lv_aload_n hx hb dX8_match_42 rfl (lv_at hl 1 rfl) ?_
            refine lv_iload_n hx hb dX8_match_43 rfl (lv_at hl 2 rfl) ?_
            refine lv_iload hx hb dX8_match_44 (lv_at hl 5 rfl) ?_
            refine ti_calli (va_runV (As := [.int x2, .int j22_L5]) (rest := []) ⟨hx, hb, hml, hown, hts⟩ (t_X7_seenBy l hT ha1 (iv_w hx2 (by decide)) (iv_w hj22_L5_28l (by decide))) (cwV 2 hts (good_V kw_924 kw_534 kw_535 kw_19 kw_536) rfl rfl rfl (by decide +kernel) ⟨by rw [hR]; decide, by rw [hR]; decide⟩) (ti_preV hK hT ha1 rfl rfl) rfl rfl hl.1 rfl (lv_room (Nat.le_of_ble_eq_true rfl)) dX8_match_46 ⟨Nat.zero_le _, Nat.zero_le _⟩) hS (pW_sub rfl) (fun v46 H1 locs hB hS _ hk46 => ?_)
            have hH := hB
            rw [hH] at hS ⊢
            refine lv_iload_n hx hb dX8_match_49 rfl (lv_at hl 3 rfl) ?_
            refine lv_icmp_ne (tgt := 67) hx hb dX8_match_50 (by decide) (fun c50 => ?_) (fun c50 => ?_)
            · skip
              have f50 := i_ne c50
              exact J67 j22_L4 _ _ _  (iv_w hj22_L4_33r (by decide)) hT hS (lv_sub hl [0, 1, 2, 3, 4, 5] rfl)
            · skip
              have f50 := i_eq c50
              have hv46_50l : iv v46 0 2147483647 := iv_eql (iv_top v46) hv2 c50 (by decide)
              refine lv_aload_n hx hb dX8_match_53 rfl (lv_at hl 1 rfl) ?_
              refine lv_iload_n hx hb dX8_match_54 rfl (lv_at hl 2 rfl) ?_
              refine lv_iload hx hb dX8_match_55 (lv_at hl 5 rfl) ?_
              refine lv_iload hx hb dX8_match_57 (lv_at hl 4 rfl) ?_
              refine lv_iconst (v := 2) hx hb dX8_match_59 (by decide) ?_
              refine lv_idiv hx hb dX8_match_60 (iv_ne0 (iv_c (x := (2 : Int32)) (k := 2) (by decide)) (by decide)) ?_
              refine lv_topi (fun v60 e60 => ?_)
              have hv60 : iv v60 0 1073741823 := by rw [e60]; exact iv_w (iv_divk hj22_L4_33r (iv_c (x := (2 : Int32)) (k := 2) (by decide)) (by decide)) (by decide)
              refine ti_callv (va_runV (As := [.int x2, .int j22_L5, .int v60]) (rest := []) ⟨hx, hb, hml, hown, hts⟩ (t_X7_hand l hT ha1 (iv_w hx2 (by decide)) (iv_w hj22_L5_28l (by decide)) (iv_w hv60 (by decide))) (cwV 3 hts (good_V kw_925 kw_712 kw_713 kw_19 kw_714) rfl rfl rfl (by decide +kernel) ⟨by rw [hR]; decide, by rw [hR]; decide⟩) (ti_preV hK hT ha1 rfl rfl) rfl rfl hl.1 rfl (lv_room (Nat.le_of_ble_eq_true rfl)) dX8_match_61 ⟨Nat.zero_le _, Nat.zero_le _⟩) hS (pW_sub rfl) (fun H locs hB hS _ hk61 => ?_)
              have hT := hB
              refine lv_iconst (v := 0) hx hb dX8_match_64 (by decide) ?_
              refine lv_istore (lv' := [(4, .int (0 : Int32)), (0, .ref a0), (1, .ref a1), (2, .int x2), (3, .int v2), (5, .int j22_L5)]) hx hb dX8_match_65 hl (by decide) rfl (fun ls hl => ?_)
              exact J67 (0 : Int32) _ _ _  (iv_w (iv_c (x := (0 : Int32)) (k := 0) (by decide)) (by decide)) hT hS (lv_sub hl [1, 2, 3, 4, 0, 5] rfl)
  refine lv_istore (lv' := [(5, .int (0 : Int32)), (4, .int v16), (3, .int v2), (0, .ref a0), (1, .ref a1), (2, .int x2)]) hx hb dX8_match_20 hl (by decide) rfl (fun ls hl => ?_)
  exact J22 _ v16 (0 : Int32) _ _ _ (Nat.lt_succ_self _) (iv_w hv16 (by decide)) (iv_w (iv_c (x := (0 : Int32)) (k := 0) (by decide)) (by decide)) hT hS (lv_sub hl [3, 4, 5, 2, 1, 0] rfl)
set_option maxHeartbeats 4000000 in
set_option maxRecDepth 100000 in
theorem t_X8_shareWithFriend (l : Launch) {D : va_G} {c0 : Nat → ClassId} {Y : Nat → Option Nat} {ν : Nat → Nat} {H : Heap} (hT : TI D vwCl (tysOf c0) (RTg ν) Y H) {a0 : Nat} (ha0 : Y a0 = some 8) {a1 : Nat} (ha1 : Y a1 = some 7) {x2 : Int32} (hx2 : iv x2 0 7) : Met l yX8_shareWithFriend (wz yX8_shareWithFriend cX8_shareWithFriend 5 none) { frames := 2, cells := 0, slots := 0, locals := 46 } (TP D vwCl (tysOf c0) H [.ref a0, .ref a1, .int x2]) (TQv (fun H' => TI D vwCl (tysOf c0) (RTg ν) Y H') Y [3]) 0 0 (pW Y [3]) := by
  refine Met.ofW (cc := cX8_shareWithFriend) (maxL := 5) (ret := none) (by decide) rfl ?_
  intro p e s m args below meth c s₁ B hml hv
  obtain ⟨rfl, rfl, hK⟩ := hv
  have hx := B.exec
  have hb := B.bytes
  have hr := B.returns
  have hts : ∀ w ∈ wq, w.before _ s = true := fun w h => atoms_spec (ws := wz yX8_shareWithFriend cX8_shareWithFriend 5 none) B.pre w (List.mem_cons_of_mem _ h)
  have hown : s.vm.findClass RX8 = some m.cls := findClass_of_methodNamed B.named
  have hlocks := B.notSynchronized
  obtain ⟨R, hR⟩ : ∃ R : Room, R = ({ frames := 2, cells := 0, slots := 0, locals := 46 } : Room) := ⟨_, rfl⟩
  rw [show (headSpec (wz yX8_shareWithFriend cX8_shareWithFriend 5 none) { frames := 2, cells := 0, slots := 0, locals := 46 }).room = R from hR.symm]
  refine ti_mv hx hb hr hlocks (fun Q ret => ?_)
  have hl := lv_entry [.ref a0, .ref a1, .int x2] (n := 5) (Nat.le_of_ble_eq_true rfl)
  rw [lg_entry_eq]
  generalize (lg_sl [.ref a0, .ref a1, .int x2] ++ List.replicate (5 - (lg_sl [.ref a0, .ref a1, .int x2]).length) Slot.unset).toArray = ls at hl ⊢
  have hl : lv_has ls 5 [(0, .ref a0), (1, .ref a1), (2, .int x2)] := hl
  refine ti_gen (P := fun H => TI D vwCl (tysOf c0) (RTg ν) Y H) (Y := Y) (ws := [3]) hT (fun H locs hT hS => ?_)
  refine lv_aload_n hx hb dX8_shareWithFriend_0 rfl (lv_at hl 1 rfl) ?_
  refine ti_getr hx hb hts inlX7 hown hK hT ha1 rfl rfl rfl 8 (by decide) (hts _ kw_848) (fun _ h9 => h9) rfl dX8_shareWithFriend_1 (fun v1 hv1 hm1 => ?_)
  refine lv_iload_n hx hb dX8_shareWithFriend_4 rfl (lv_at hl 2 rfl) ?_
  refine ti_aald hx hb (aT6 hK) hT hv1 rfl hx2 (by decide) (fun _ _ _ => rfl) dX8_shareWithFriend_5 (fun v5 hv5 => ?_)
  refine ti_geti hx hb hts inlX3 hown hK hT hv5 rfl rfl rfl 3 (by decide) (hts _ kw_863) (fun _ h9 => h9) rfl dX8_shareWithFriend_6 (fun v6 hv6 hm6 => ?_)
  refine lv_istore_n (lv' := [(3, .int v6), (0, .ref a0), (1, .ref a1), (2, .int x2)]) hx hb dX8_shareWithFriend_9 rfl hl (by decide) rfl (fun ls hl => ?_)
  refine lv_iload_n hx hb dX8_shareWithFriend_10 rfl (lv_at hl 0 rfl) ?_
  refine lv_if_lt (tgt := 27) hx hb dX8_shareWithFriend_11 (by decide) (fun c11 => ?_) (fun c11 => ?_)
  · skip
    have kl0 : (0 : Int32).toInt = 0 := by decide
    have f11 := i_lt c11
    have hv6_11l : iv v6 (-2147483648) (-1) := iv_ltl hv6 (iv_c (x := (0 : Int32)) (k := 0) (by decide)) c11 (by decide)
    exact ret _ _ _ _ dX8_shareWithFriend_27 (hT) hS
  · skip
    have kl0 : (0 : Int32).toInt = 0 := by decide
    have f11 := i_nlt c11
    have hv6_11r : iv v6 0 2147483647 := iv_ler (iv_c (x := (0 : Int32)) (k := 0) (by decide)) hv6 (Int32.not_lt.mp c11) (by decide)
    refine lv_iload_n hx hb dX8_shareWithFriend_14 rfl (lv_at hl 0 rfl) ?_
    refine lv_aload_n hx hb dX8_shareWithFriend_15 rfl (lv_at hl 2 rfl) ?_
    refine ti_geti hx hb hts inlX7 hown hK hT ha1 rfl rfl rfl 1 (by decide) (hts _ kw_846) (fun _ h9 => h9) rfl dX8_shareWithFriend_16 (fun v16 hv16 hm16 => ?_)
    refine lv_icmp_ge (tgt := 27) hx hb dX8_shareWithFriend_19 (by decide) (fun c19 => ?_) (fun c19 => ?_)
    · skip
      have f19 := i_le c19
      exact ret _ _ _ _ dX8_shareWithFriend_27 (hT) hS
    · skip
      have f19 := i_nle c19
      have hv6_19l : iv v6 0 7 := iv_ltl hv6_11r hv16 (Int32.not_le.mp c19) (by decide)
      have hv16_19r : iv v16 1 8 := iv_ltr hv6_19l hv16 (Int32.not_le.mp c19) (by decide)
      refine lv_iload_n hx hb dX8_shareWithFriend_22 rfl (lv_at hl 0 rfl) ?_
      refine lv_iload_n hx hb dX8_shareWithFriend_23 rfl (lv_at hl 3 rfl) ?_
      refine lv_icmp_ne (tgt := 28) hx hb dX8_shareWithFriend_24 (by decide) (fun c24 => ?_) (fun c24 => ?_)
      · skip
        have f24 := i_ne c24
        refine lv_aload_n hx hb dX8_shareWithFriend_28 rfl (lv_at hl 2 rfl) ?_
        refine ti_getE (ci := 7) (v := .ref v1) hx hb hts inlX7 hown hK hm1 rfl (by decide) (hts _ kw_848) (fun _ h9 => h9) dX8_shareWithFriend_29 ?_
        refine lv_iload_n hx hb dX8_shareWithFriend_32 rfl (lv_at hl 3 rfl) ?_
        refine ti_aald hx hb (aT6 hK) hT hv1 rfl hx2 (by decide) (fun _ _ _ => rfl) dX8_shareWithFriend_33 (fun v33 hv33 => ?_)
        refine ti_calli (va_runV (As := []) (rest := []) ⟨hx, hb, hml, hown, hts⟩ (t_X3_shown l hT hv33) (cwV 0 hts (good_V kw_912 kw_538 kw_539 kw_68 kw_540) rfl rfl rfl (by decide +kernel) ⟨by rw [hR]; decide, by rw [hR]; decide⟩) (ti_preV hK hT hv33 rfl rfl) rfl rfl hl.1 rfl (lv_room (Nat.le_of_ble_eq_true rfl)) dX8_shareWithFriend_34 ⟨Nat.zero_le _, Nat.zero_le _⟩) hS (pW_sub rfl) (fun v34 H1 locs hB hS _ hk34 => ?_)
        have hH := hB
        rw [hH] at hS ⊢
        refine lv_aload_n hx hb dX8_shareWithFriend_37 rfl (lv_at hl 2 rfl) ?_
        refine ti_getE (ci := 7) (v := .ref v1) hx hb hts inlX7 hown hK hm1 rfl (by decide) (hts _ kw_848) (fun _ h9 => h9) dX8_shareWithFriend_38 ?_
        refine lv_iload_n hx hb dX8_shareWithFriend_41 rfl (lv_at hl 0 rfl) ?_
        refine ti_aald hx hb (aT6 hK) hT hv1 rfl hv6_19l (by decide) (fun _ _ _ => rfl) dX8_shareWithFriend_42 (fun v42 hv42 => ?_)
        refine ti_calli (va_runV (As := []) (rest := [.int v34]) ⟨hx, hb, hml, hown, hts⟩ (t_X3_shown l hT hv42) (cwV 0 hts (good_V kw_912 kw_538 kw_539 kw_68 kw_540) rfl rfl rfl (by decide +kernel) ⟨by rw [hR]; decide, by rw [hR]; decide⟩) (ti_preV hK hT hv42 rfl rfl) rfl rfl hl.1 rfl (lv_room (Nat.le_of_ble_eq_true rfl)) dX8_shareWithFriend_43 ⟨Nat.zero_le _, Nat.zero_le _⟩) hS (pW_sub rfl) (fun v43 H1 locs hB hS _ hk43 => ?_)
        have hH := hB
        rw [hH] at hS ⊢
        refine lv_isub hx hb dX8_shareWithFriend_46 ?_
        refine lv_topi (fun v46 e46 => ?_)
        have hv46 : iv v46 (-2147483648) 2147483647 := iv_top _
        refine lv_istore (lv' := [(4, .int v46), (3, .int v6), (0, .ref a0), (1, .ref a1), (2, .int x2)]) hx hb dX8_shareWithFriend_47 hl (by decide) rfl (fun ls hl => ?_)
        refine lv_iload hx hb dX8_shareWithFriend_49 (lv_at hl 0 rfl) ?_
        refine lv_if_le (tgt := 64) hx hb dX8_shareWithFriend_51 (by decide) (fun c51 => ?_) (fun c51 => ?_)
        · skip
          have f51 := i_le c51
          have hv46_51l : iv v46 (-2147483648) 0 := iv_lel hv46 (iv_c (x := (0 : Int32)) (k := 0) (by decide)) c51 (by decide)
          exact ret _ _ _ _ dX8_shareWithFriend_64 (hT) hS
        · skip
          have f51 := i_nle c51
          have hv46_51r : iv v46 1 2147483647 := iv_ltr (iv_c (x := (0 : Int32)) (k := 0) (by decide)) hv46 (Int32.not_le.mp c51) (by decide)
          refine lv_aload_n hx hb dX8_shareWithFriend_54 rfl (lv_at hl 3 rfl) ?_
          refine lv_iload_n hx hb dX8_shareWithFriend_55 rfl (lv_at hl 4 rfl) ?_
          refine lv_iload_n hx hb dX8_shareWithFriend_56 rfl (lv_at hl 1 rfl) ?_
          refine lv_iload hx hb dX8_shareWithFriend_57 (lv_at hl 0 rfl) ?_
          refine lv_iconst (v := 2) hx hb dX8_shareWithFriend_59 (by decide) ?_
          refine lv_idiv hx hb dX8_shareWithFriend_60 (iv_ne0 (iv_c (x := (2 : Int32)) (k := 2) (by decide)) (by decide)) ?_
          refine lv_topi (fun v60 e60 => ?_)
          have hv60 : iv v60 0 1073741823 := by rw [e60]; exact iv_w (iv_divk hv46_51r (iv_c (x := (2 : Int32)) (k := 2) (by decide)) (by decide)) (by decide)
          refine ti_callv (va_runV (As := [.int x2, .int v6, .int v60]) (rest := []) ⟨hx, hb, hml, hown, hts⟩ (t_X7_hand l hT ha1 (iv_w hx2 (by decide)) (iv_w hv6_19l (by decide)) (iv_w hv60 (by decide))) (cwV 3 hts (good_V kw_925 kw_712 kw_713 kw_19 kw_714) rfl rfl rfl (by decide +kernel) ⟨by rw [hR]; decide, by rw [hR]; decide⟩) (ti_preV hK hT ha1 rfl rfl) rfl rfl hl.1 rfl (lv_room (Nat.le_of_ble_eq_true rfl)) dX8_shareWithFriend_61 ⟨Nat.zero_le _, Nat.zero_le _⟩) hS (pW_sub rfl) (fun H locs hB hS _ hk61 => ?_)
          have hT := hB
          exact ret _ _ _ _ dX8_shareWithFriend_64 (hT) hS
      · skip
        have f24 := i_eq c24
        exact ret _ _ _ _ dX8_shareWithFriend_27 (hT) hS
set_option maxHeartbeats 4000000 in
set_option maxRecDepth 100000 in
theorem t_X8_move (l : Launch) {D : va_G} {c0 : Nat → ClassId} {Y : Nat → Option Nat} {ν : Nat → Nat} {H : Heap} (hT : TI D vwCl (tysOf c0) (RTg ν) Y H) {a0 : Nat} (ha0 : Y a0 = some 8) {a1 : Nat} (ha1 : Y a1 = some 7) {x2 : Int32} (hx2 : iv x2 0 7) {x3 : Int32} (hx3 : iv x3 0 1) : Met l yX8_move (wz yX8_move cX8_move 6 (some .int)) { frames := 4, cells := 0, slots := 0, locals := 117 } (TP D vwCl (tysOf c0) H [.ref a0, .ref a1, .int x2, .int x3]) (TQi (fun x H' => TI D vwCl (tysOf c0) (RTg ν) Y H') Y [2, 3, 4, 8, 29]) 0 0 (pW Y [2, 3, 4, 8, 29]) := by
  refine Met.ofW (cc := cX8_move) (maxL := 6) (ret := (some .int)) (by decide) rfl ?_
  intro p e s m args below meth c s₁ B hml hv
  obtain ⟨rfl, rfl, hK⟩ := hv
  have hx := B.exec
  have hb := B.bytes
  have hr := B.returns
  have hts : ∀ w ∈ wq, w.before _ s = true := fun w h => atoms_spec (ws := wz yX8_move cX8_move 6 (some .int)) B.pre w (List.mem_cons_of_mem _ h)
  have hown : s.vm.findClass RX8 = some m.cls := findClass_of_methodNamed B.named
  have hlocks := B.notSynchronized
  obtain ⟨R, hR⟩ : ∃ R : Room, R = ({ frames := 4, cells := 0, slots := 0, locals := 117 } : Room) := ⟨_, rfl⟩
  rw [show (headSpec (wz yX8_move cX8_move 6 (some .int)) { frames := 4, cells := 0, slots := 0, locals := 117 }).room = R from hR.symm]
  refine ti_mi hx hb hr hlocks (fun Q ret => ?_)
  have hl := lv_entry [.ref a0, .ref a1, .int x2, .int x3] (n := 6) (Nat.le_of_ble_eq_true rfl)
  rw [lg_entry_eq]
  generalize (lg_sl [.ref a0, .ref a1, .int x2, .int x3] ++ List.replicate (6 - (lg_sl [.ref a0, .ref a1, .int x2, .int x3]).length) Slot.unset).toArray = ls at hl ⊢
  have hl : lv_has ls 6 [(0, .ref a0), (1, .ref a1), (2, .int x2), (3, .int x3)] := hl
  refine ti_gen (P := fun H => TI D vwCl (tysOf c0) (RTg ν) Y H) (Y := Y) (ws := [2, 3, 4, 8, 29]) hT (fun H locs hT hS => ?_)
  refine lv_aload_n hx hb dX8_move_0 rfl (lv_at hl 1 rfl) ?_
  refine ti_getr hx hb hts inlX7 hown hK hT ha1 rfl rfl rfl 8 (by decide) (hts _ kw_848) (fun _ h9 => h9) rfl dX8_move_1 (fun v1 hv1 hm1 => ?_)
  refine lv_iload_n hx hb dX8_move_4 rfl (lv_at hl 2 rfl) ?_
  refine ti_aald hx hb (aT6 hK) hT hv1 rfl hx2 (by decide) (fun _ _ _ => rfl) dX8_move_5 (fun v5 hv5 => ?_)
  refine lv_astore (lv' := [(4, .ref v5), (0, .ref a0), (1, .ref a1), (2, .int x2), (3, .int x3)]) hx hb dX8_move_6 hl (by decide) rfl (fun ls hl => ?_)
  refine lv_aload hx hb dX8_move_8 (lv_at hl 0 rfl) ?_
  refine ti_geti hx hb hts inlX3 hown hK hT hv5 rfl rfl rfl 2 (by decide) (hts _ kw_857) (fun _ h9 => h9) rfl dX8_move_10 (fun v10 hv10 hm10 => ?_)
  refine lv_iconst (v := 5) hx hb dX8_move_13 (by decide) ?_
  refine lv_icmp_ne (tgt := 117) hx hb dX8_move_14 (by decide) (fun c14 => ?_) (fun c14 => ?_)
  · skip
    have kl5 : (5 : Int32).toInt = 5 := by decide
    have f14 := i_ne c14
    refine lv_aload_n hx hb dX8_move_117 rfl (lv_at hl 2 rfl) ?_
    refine lv_iload_n hx hb dX8_move_118 rfl (lv_at hl 3 rfl) ?_
    refine lv_iconst (v := 1) hx hb dX8_move_119 (by decide) ?_
    refine lv_iconst (v := 0) hx hb dX8_move_120 (by decide) ?_
    refine lv_iconst (v := 0) hx hb dX8_move_121 (by decide) ?_
    refine lv_iconst (v := (-1)) hx hb dX8_move_122 (by decide) ?_
    have kl0 : (0 : Int32).toInt = 0 := by decide
    have klm1 : (-1 : Int32).toInt = (-1) := by decide
    refine ti_callv (va_runV (As := [.int x2, .int (1 : Int32), .int (0 : Int32), .int (0 : Int32), .int (-1 : Int32)]) (rest := []) ⟨hx, hb, hml, hown, hts⟩ (t_X7_perform l hT ha1 (iv_w hx2 (by decide)) (iv_w (iv_c (x := (1 : Int32)) (k := 1) (by decide)) (by decide)) (iv_w (iv_c (x := (0 : Int32)) (k := 0) (by decide)) (by decide)) (iv_w (iv_c (x := (0 : Int32)) (k := 0) (by decide)) (by decide)) (iv_w (iv_c (x := (-1 : Int32)) (k := (-1)) (by decide)) (by decide)) (fun h9 => by omega)) (cwV 5 hts (good_V kw_910 kw_767 kw_768 kw_19 kw_769) rfl rfl rfl (by decide +kernel) ⟨by rw [hR]; decide, by rw [hR]; decide⟩) (ti_preV hK hT ha1 rfl rfl) rfl rfl hl.1 rfl (lv_room (Nat.le_of_ble_eq_true rfl)) dX8_move_123 ⟨Nat.zero_le _, Nat.zero_le _⟩) hS (pW_sub rfl) (fun H locs hB hS _ hk123 => ?_)
    have hT := hB
    refine lv_iconst (v := 0) hx hb dX8_move_126 (by decide) ?_
    refine lv_istore (lv' := [(5, .int (0 : Int32)), (4, .ref v5), (0, .ref a0), (1, .ref a1), (2, .int x2), (3, .int x3)]) hx hb dX8_move_127 hl (by decide) rfl (fun ls hl => ?_)
    refine lv_aload hx hb dX8_move_129 (lv_at hl 1 rfl) ?_
    refine ti_geti hx hb hts inlX3 hown hK hT hv5 rfl rfl rfl 2 (by decide) (hts _ kw_857) (fun _ h9 => h9) rfl dX8_move_131 (fun v131 hv131 hm131 => ?_)
    have J231 : ∀ (j231_L5 : Int32) (H : Heap) (locs : List Loc) (ls : Array Slot), iv j231_L5 0 2147483647 → TI D vwCl (tysOf c0) (RTg ν) Y H → va_S (pW Y [2, 3, 4, 8, 29]) s.heap H locs → lv_has ls 6 [(0, .ref a0), (1, .ref a1), (2, .int x2), (3, .int x3), (4, .ref v5), (5, .int j231_L5)] → W p l e R s m ([.ref a0, .ref a1, .int x2, .int x3] : List Value).toArray below meth c H locs 0 0 Q (F0 m 231 ls []) := by
      intro j231_L5 H locs ls hj231_L5 hT hS hl
      refine lv_aload hx hb dX8_move_231 (lv_at hl 4 rfl) ?_
      refine lv_iconst (v := 1) hx hb dX8_move_233 (by decide) ?_
      refine lv_iload hx hb dX8_move_234 (lv_at hl 5 rfl) ?_
      refine ti_calli (va_runV (As := [.int (1 : Int32), .int j231_L5]) (rest := []) ⟨hx, hb, hml, hown, hts⟩ (t_X3_pleasure l hT hv5 (iv_w (iv_c (x := (1 : Int32)) (k := 1) (by decide)) (by decide)) (iv_w hj231_L5 (by decide))) (cwV 2 hts (good_V kw_911 kw_772 kw_773 kw_68 kw_774) rfl rfl rfl (by decide +kernel) ⟨by rw [hR]; decide, by rw [hR]; decide⟩) (ti_preV hK hT hv5 rfl rfl) rfl rfl hl.1 rfl (lv_room (Nat.le_of_ble_eq_true rfl)) dX8_move_236 ⟨Nat.zero_le _, Nat.zero_le _⟩) hS (pW_sub rfl) (fun v236 H1 locs hB hS _ hk236 => ?_)
      have hH := hB
      rw [hH] at hS ⊢
      have kl1 : (1 : Int32).toInt = 1 := by decide
      exact ret _ _ _ _ _ dX8_move_239 (hT) hS
    by_cases c134_0 : v131.toInt = 0
    · skip
      refine lv_tableIn (off := 30) (tgt := 164) hx hb dX8_move_134 (by omega) (by omega) (by rw [c134_0]; rfl) (by decide) ?_
      have hv131_134 : iv v131 0 0 := iv_c c134_0
      refine lv_iconst (v := 0) hx hb dX8_move_164 (by decide) ?_
      refine lv_aload hx hb dX8_move_165 (lv_at hl 1 rfl) ?_
      refine ti_calli (va_runV (As := []) (rest := [.int (0 : Int32)]) ⟨hx, hb, hml, hown, hts⟩ (t_X3_shown l hT hv5) (cwV 0 hts (good_V kw_912 kw_538 kw_539 kw_68 kw_540) rfl rfl rfl (by decide +kernel) ⟨by rw [hR]; decide, by rw [hR]; decide⟩) (ti_preV hK hT hv5 rfl rfl) rfl rfl hl.1 rfl (lv_room (Nat.le_of_ble_eq_true rfl)) dX8_move_167 ⟨Nat.zero_le _, Nat.zero_le _⟩) hS (pW_sub rfl) (fun v167 H1 locs hB hS _ hk167 => ?_)
      have hH := hB
      rw [hH] at hS ⊢
      refine lv_aload_n hx hb dX8_move_170 rfl (lv_at hl 3 rfl) ?_
      refine lv_iload_n hx hb dX8_move_171 rfl (lv_at hl 4 rfl) ?_
      refine ti_calli (va_runV (As := [.int x2]) (rest := [.int v167, .int (0 : Int32)]) ⟨hx, hb, hml, hown, hts⟩ (t_X7_topFor l hT ha1 (iv_w hx2 (by decide))) (cwV 1 hts (good_V kw_913 kw_914 kw_915 kw_19 kw_916) rfl rfl rfl (by decide +kernel) ⟨by rw [hR]; decide, by rw [hR]; decide⟩) (ti_preV hK hT ha1 rfl rfl) rfl rfl hl.1 rfl (lv_room (Nat.le_of_ble_eq_true rfl)) dX8_move_172 ⟨Nat.zero_le _, Nat.zero_le _⟩) hS (pW_sub rfl) (fun v172 H1 locs hB hS _ hk172 => ?_)
      obtain ⟨hH, hv172⟩ := hB
      rw [hH] at hS ⊢
      refine lv_isub hx hb dX8_move_175 ?_
      refine lv_topi (fun v175 e175 => ?_)
      have hv175 : iv v175 (-2147483648) 2147483647 := iv_top _
      refine va_mmax hx hb (by rw [hml]; exact hl.1.symm) hown (hts _ kw_862) (hts _ kw_618) (hts _ kw_212) (hts _ kw_619) (by rw [hR]; decide) (by rw [hR]; exact Nat.le_of_ble_eq_true rfl) (Nat.zero_le _) (Nat.zero_le _) dX8_move_176 ?_
      refine lv_topi (fun v176 e176 => ?_)
      have hv176 : iv v176 0 2147483647 := by rw [e176]; exact iv_max (iv_c (x := (0 : Int32)) (k := 0) (by decide)) hv175 (by decide)
      refine lv_istore (lv' := [(5, .int v176), (4, .ref v5), (0, .ref a0), (1, .ref a1), (2, .int x2), (3, .int x3)]) hx hb dX8_move_179 hl (by decide) rfl (fun ls hl => ?_)
      refine lv_aload_n hx hb dX8_move_181 rfl (lv_at hl 3 rfl) ?_
      refine lv_iload_n hx hb dX8_move_182 rfl (lv_at hl 4 rfl) ?_
      refine lv_iload hx hb dX8_move_183 (lv_at hl 0 rfl) ?_
      refine lv_ineg hx hb dX8_move_185 ?_
      refine lv_topi (fun v185 e185 => ?_)
      have hv185 : iv v185 (-2147483648) 2147483647 := iv_top _
      refine ti_callv (va_runV (As := [.int x2, .int v185]) (rest := []) ⟨hx, hb, hml, hown, hts⟩ (t_X7_change l hT ha1 (iv_w hx2 (by decide)) (iv_w hv185 (by decide))) (cwV 2 hts (good_V kw_919 kw_699 kw_700 kw_19 kw_701) rfl rfl rfl (by decide +kernel) ⟨by rw [hR]; decide, by rw [hR]; decide⟩) (ti_preV hK hT ha1 rfl rfl) rfl rfl hl.1 rfl (lv_room (Nat.le_of_ble_eq_true rfl)) dX8_move_186 ⟨Nat.zero_le _, Nat.zero_le _⟩) hS (pW_sub rfl) (fun H locs hB hS _ hk186 => ?_)
      have hT := hB
      refine lv_goto (tgt := 231) hx hb dX8_move_189 (by decide) ?_
      exact J231 v176 _ _ _  (iv_w hv176 (by decide)) hT hS (lv_sub hl [2, 3, 4, 5, 1, 0] rfl)
    by_cases c134_1 : v131.toInt = 1
    · skip
      refine lv_tableIn (off := 58) (tgt := 192) hx hb dX8_move_134 (by omega) (by omega) (by rw [c134_1]; rfl) (by decide) ?_
      have hv131_134 : iv v131 1 1 := iv_c c134_1
      refine lv_aload_n hx hb dX8_move_192 rfl (lv_at hl 2 rfl) ?_
      refine lv_aload_n hx hb dX8_move_193 rfl (lv_at hl 3 rfl) ?_
      refine lv_iload_n hx hb dX8_move_194 rfl (lv_at hl 4 rfl) ?_
      refine ti_callv (va_runV (As := [.ref a1, .int x2]) (rest := []) ⟨hx, hb, hml, hown, hts⟩ (t_X8_match l hT ha0 ha1 (iv_w hx2 (by decide))) (cwV 2 hts (good_V kw_920 kw_921 kw_922 kw_37 kw_923) rfl rfl rfl (by decide +kernel) ⟨by rw [hR]; decide, by rw [hR]; decide⟩) (ti_preV hK hT ha0 rfl rfl) rfl rfl hl.1 rfl (lv_room (Nat.le_of_ble_eq_true rfl)) dX8_move_195 ⟨Nat.zero_le _, Nat.zero_le _⟩) hS (pW_sub rfl) (fun H locs hB hS _ hk195 => ?_)
      have hT := hB
      refine lv_goto (tgt := 231) hx hb dX8_move_198 (by decide) ?_
      exact J231 (0 : Int32) _ _ _  (iv_w (iv_c (x := (0 : Int32)) (k := 0) (by decide)) (by decide)) hT hS (lv_sub hl [2, 3, 4, 5, 1, 0] rfl)
    by_cases c134_2 : v131.toInt = 2
    · skip
      refine lv_tableIn (off := 67) (tgt := 201) hx hb dX8_move_134 (by omega) (by omega) (by rw [c134_2]; rfl) (by decide) ?_
      have hv131_134 : iv v131 2 2 := iv_c c134_2
      refine lv_aload_n hx hb dX8_move_201 rfl (lv_at hl 2 rfl) ?_
      refine lv_aload_n hx hb dX8_move_202 rfl (lv_at hl 3 rfl) ?_
      refine lv_iload_n hx hb dX8_move_203 rfl (lv_at hl 4 rfl) ?_
      refine ti_callv (va_runV (As := [.ref a1, .int x2]) (rest := []) ⟨hx, hb, hml, hown, hts⟩ (t_X8_shareWithFriend l hT ha0 ha1 (iv_w hx2 (by decide))) (cwV 2 hts (good_V kw_926 kw_927 kw_928 kw_37 kw_929) rfl rfl rfl (by decide +kernel) ⟨by rw [hR]; decide, by rw [hR]; decide⟩) (ti_preV hK hT ha0 rfl rfl) rfl rfl hl.1 rfl (lv_room (Nat.le_of_ble_eq_true rfl)) dX8_move_204 ⟨Nat.zero_le _, Nat.zero_le _⟩) hS (pW_sub rfl) (fun H locs hB hS _ hk204 => ?_)
      have hT := hB
      refine lv_goto (tgt := 231) hx hb dX8_move_207 (by decide) ?_
      exact J231 (0 : Int32) _ _ _  (iv_w (iv_c (x := (0 : Int32)) (k := 0) (by decide)) (by decide)) hT hS (lv_sub hl [2, 3, 4, 5, 1, 0] rfl)
    by_cases c134_3 : v131.toInt = 3
    · skip
      refine lv_tableIn (off := 76) (tgt := 210) hx hb dX8_move_134 (by omega) (by omega) (by rw [c134_3]; rfl) (by decide) ?_
      have hv131_134 : iv v131 3 3 := iv_c c134_3
      refine lv_aload hx hb dX8_move_210 (lv_at hl 1 rfl) ?_
      refine lv_aload hx hb dX8_move_212 (lv_at hl 1 rfl) ?_
      refine ti_geti hx hb hts inlX3 hown hK hT hv5 rfl rfl rfl 3 (by decide) (hts _ kw_863) (fun _ h9 => h9) rfl dX8_move_214 (fun v214 hv214 hm214 => ?_)
      refine lv_aload hx hb dX8_move_217 (lv_at hl 1 rfl) ?_
      refine ti_geti hx hb hts inlX3 hown hK hT hv5 rfl rfl rfl 0 (by decide) (hts _ kw_851) (fun _ h9 => h9) rfl dX8_move_219 (fun v219 hv219 hm219 => ?_)
      refine va_mmin hx hb (by rw [hml]; exact hl.1.symm) hown (hts _ kw_864) (hts _ kw_211) (hts _ kw_212) (hts _ kw_213) (by rw [hR]; decide) (by rw [hR]; exact Nat.le_of_ble_eq_true rfl) (Nat.zero_le _) (Nat.zero_le _) dX8_move_222 ?_
      refine lv_topi (fun v222 e222 => ?_)
      have hv222 : iv v222 (-2147483648) 100000 := by rw [e222]; exact iv_min hv214 hv219 (by decide)
      refine ti_put (ty := .int) hx hb hts inlX3 tyX3 tyX3_ok nmX3 hown hK hT hS hv5 rfl rfl rfl rfl 1 (by decide) (hts _ kw_865) (fun _ h9 => h9) rfl rfl (by decide +kernel) rfl rfl ⟨v222, rfl, iv_w hv222 (by decide)⟩ (fun _ _ => trivial) dX8_move_225 (fun H locs hT hS oq225 he225 hk225 => ?_)
      refine lv_goto (tgt := 231) hx hb dX8_move_228 (by decide) ?_
      exact J231 (0 : Int32) _ _ _  (iv_w (iv_c (x := (0 : Int32)) (k := 0) (by decide)) (by decide)) hT hS (lv_sub hl [2, 3, 4, 5, 1, 0] rfl)
    refine lv_tableOut (tgt := 231) hx hb dX8_move_134 (by have b0a := (hv131).1; have b0b := (hv131).2; omega) (by decide) ?_
    exact J231 (0 : Int32) _ _ _  (iv_w (iv_c (x := (0 : Int32)) (k := 0) (by decide)) (by decide)) hT hS (lv_sub hl [2, 3, 4, 5, 1, 0] rfl)
  · skip
    have kl5 : (5 : Int32).toInt = 5 := by decide
    have f14 := i_eq c14
    have hv10_14l : iv v10 5 5 := iv_eql hv10 (iv_c (x := (5 : Int32)) (k := 5) (by decide)) c14 (by decide)
    refine lv_aload_n hx hb dX8_move_17 rfl (lv_at hl 1 rfl) ?_
    refine ti_getr hx hb hts inlX8 hown hK hT ha0 rfl rfl rfl 0 (by decide) (hts _ kw_117) (fun _ h9 => h9) rfl dX8_move_18 (fun v18 hv18 hm18 => ?_)
    refine lv_aload_n hx hb dX8_move_21 rfl (lv_at hl 2 rfl) ?_
    refine lv_iload_n hx hb dX8_move_22 rfl (lv_at hl 3 rfl) ?_
    refine lv_iconst (v := 0) hx hb dX8_move_23 (by decide) ?_
    refine lv_iload_n hx hb dX8_move_24 rfl (lv_at hl 4 rfl) ?_
    refine ti_callv (va_runV (As := [.ref a1, .int x2, .int (0 : Int32), .int x3]) (rest := []) ⟨hx, hb, hml, hown, hts⟩ (t_X2_see l hT hv18 ha1 (iv_w hx2 (by decide)) (iv_w (iv_c (x := (0 : Int32)) (k := 0) (by decide)) (by decide)) (iv_w hx3 (by decide))) (cwV 4 hts (good_V kw_866 kw_867 kw_868 kw_33 kw_869) rfl rfl rfl (by decide +kernel) ⟨by rw [hR]; decide, by rw [hR]; decide⟩) (ti_preV hK hT hv18 rfl rfl) rfl rfl hl.1 rfl (lv_room (Nat.le_of_ble_eq_true rfl)) dX8_move_25 ⟨Nat.zero_le _, Nat.zero_le _⟩) hS (pW_sub rfl) (fun H locs hB hS _ hk25 => ?_)
    have hT := hB
    refine lv_aload_n hx hb dX8_move_28 rfl (lv_at hl 1 rfl) ?_
    refine ti_getE (ci := 8) (v := .ref v18) hx hb hts inlX8 hown hK (hm18.call hk25 (pW_not ha0 rfl)) rfl (by decide) (hts _ kw_117) (fun _ h9 => h9) dX8_move_29 ?_
    refine lv_aload_n hx hb dX8_move_32 rfl (lv_at hl 2 rfl) ?_
    refine lv_iconst (v := 1) hx hb dX8_move_33 (by decide) ?_
    refine ti_callv (va_runV (As := [.ref a1, .int (1 : Int32)]) (rest := []) ⟨hx, hb, hml, hown, hts⟩ (t_X2_search l hT hv18 ha1 (iv_w (iv_c (x := (1 : Int32)) (k := 1) (by decide)) (by decide))) (cwV 2 hts (good_V kw_878 kw_879 kw_880 kw_33 kw_881) rfl rfl rfl (by decide +kernel) ⟨by rw [hR]; decide, by rw [hR]; decide⟩) (ti_preV hK hT hv18 rfl rfl) rfl rfl hl.1 rfl (lv_room (Nat.le_of_ble_eq_true rfl)) dX8_move_34 ⟨Nat.zero_le _, Nat.zero_le _⟩) hS (pW_sub rfl) (fun H locs hB hS _ hk34 => ?_)
    have hT := hB
    refine lv_aload_n hx hb dX8_move_37 rfl (lv_at hl 1 rfl) ?_
    refine ti_getE (ci := 8) (v := .ref v18) hx hb hts inlX8 hown hK ((hm18.call hk25 (pW_not ha0 rfl)).call hk34 (pW_not ha0 rfl)) rfl (by decide) (hts _ kw_117) (fun _ h9 => h9) dX8_move_38 ?_
    refine lv_aload_n hx hb dX8_move_41 rfl (lv_at hl 2 rfl) ?_
    refine lv_iconst (v := 0) hx hb dX8_move_42 (by decide) ?_
    refine ti_callv (va_runV (As := [.ref a1, .int (0 : Int32)]) (rest := []) ⟨hx, hb, hml, hown, hts⟩ (t_X2_search l hT hv18 ha1 (iv_w (iv_c (x := (0 : Int32)) (k := 0) (by decide)) (by decide))) (cwV 2 hts (good_V kw_878 kw_879 kw_880 kw_33 kw_881) rfl rfl rfl (by decide +kernel) ⟨by rw [hR]; decide, by rw [hR]; decide⟩) (ti_preV hK hT hv18 rfl rfl) rfl rfl hl.1 rfl (lv_room (Nat.le_of_ble_eq_true rfl)) dX8_move_43 ⟨Nat.zero_le _, Nat.zero_le _⟩) hS (pW_sub rfl) (fun H locs hB hS _ hk43 => ?_)
    have hT := hB
    refine lv_aload_n hx hb dX8_move_46 rfl (lv_at hl 1 rfl) ?_
    refine lv_dup hx hb dX8_move_47 rfl ?_
    refine ti_geti hx hb hts inlX8 hown hK hT ha0 rfl rfl rfl 4 (by decide) (hts _ kw_844) (fun _ h9 => h9) rfl dX8_move_48 (fun v48 hv48 hm48 => ?_)
    refine lv_iconst (v := 1) hx hb dX8_move_51 (by decide) ?_
    refine lv_aload_n hx hb dX8_move_52 rfl (lv_at hl 1 rfl) ?_
    refine ti_getE (ci := 8) (v := .ref v18) hx hb hts inlX8 hown hK (((hm18.call hk25 (pW_not ha0 rfl)).call hk34 (pW_not ha0 rfl)).call hk43 (pW_not ha0 rfl)) rfl (by decide) (hts _ kw_117) (fun _ h9 => h9) dX8_move_53 ?_
    refine ti_geti hx hb hts inlX2 hown hK hT hv18 rfl rfl rfl 5 (by decide) (hts _ kw_858) (fun _ h9 => h9) rfl dX8_move_56 (fun v56 hv56 hm56 => ?_)
    refine lv_isub hx hb dX8_move_59 ?_
    refine lv_topi (fun v59 e59 => ?_)
    have hv59 : iv v59 (-2147483648) 2147483647 := iv_top _
    refine lv_iadd hx hb dX8_move_60 ?_
    refine lv_topi (fun v60 e60 => ?_)
    have hv60 : iv v60 (-2147483648) 2147483647 := iv_top _
    refine ti_put (ty := .int) hx hb hts inlX8 tyX8 tyX8_ok nmX8 hown hK hT hS ha0 rfl rfl rfl rfl 4 (by decide) (hts _ kw_844) (fun _ h9 => h9) rfl rfl (by decide +kernel) rfl rfl ⟨v60, rfl, iv_w hv60 (by decide)⟩ (fun _ _ => trivial) dX8_move_61 (fun H locs hT hS oq61 he61 hk61 => ?_)
    refine lv_aload_n hx hb dX8_move_64 rfl (lv_at hl 2 rfl) ?_
    refine lv_iload_n hx hb dX8_move_65 rfl (lv_at hl 3 rfl) ?_
    refine lv_aload_n hx hb dX8_move_66 rfl (lv_at hl 1 rfl) ?_
    refine ti_getE (ci := 8) (v := .ref v18) hx hb hts inlX8 hown hK (hk61 _ _ (by decide) (((hm18.call hk25 (pW_not ha0 rfl)).call hk34 (pW_not ha0 rfl)).call hk43 (pW_not ha0 rfl))) rfl (by decide) (hts _ kw_117) (fun _ h9 => h9) dX8_move_67 ?_
    refine ti_getE (ci := 2) (v := .int v56) hx hb hts inlX2 hown hK (hm56.kept (oq61 _ (ne_r hv18 ha0 rfl))) rfl (by decide) (hts _ kw_858) (fun _ h9 => h9) dX8_move_70 ?_
    refine lv_aload_n hx hb dX8_move_73 rfl (lv_at hl 1 rfl) ?_
    refine ti_getE (ci := 8) (v := .ref v18) hx hb hts inlX8 hown hK (hk61 _ _ (by decide) (((hm18.call hk25 (pW_not ha0 rfl)).call hk34 (pW_not ha0 rfl)).call hk43 (pW_not ha0 rfl))) rfl (by decide) (hts _ kw_117) (fun _ h9 => h9) dX8_move_74 ?_
    refine ti_geti hx hb hts inlX2 hown hK hT hv18 rfl rfl rfl 6 (by decide) (hts _ kw_859) (fun _ h9 => h9) rfl dX8_move_77 (fun v77 hv77 hm77 => ?_)
    refine lv_aload_n hx hb dX8_move_80 rfl (lv_at hl 1 rfl) ?_
    refine ti_getE (ci := 8) (v := .ref v18) hx hb hts inlX8 hown hK (hk61 _ _ (by decide) (((hm18.call hk25 (pW_not ha0 rfl)).call hk34 (pW_not ha0 rfl)).call hk43 (pW_not ha0 rfl))) rfl (by decide) (hts _ kw_117) (fun _ h9 => h9) dX8_move_81 ?_
    refine ti_geti hx hb hts inlX2 hown hK hT hv18 rfl rfl rfl 7 (by decide) (hts _ kw_860) (fun _ h9 => h9) rfl dX8_move_84 (fun v84 hv84 hm84 => ?_)
    refine lv_aload_n hx hb dX8_move_87 rfl (lv_at hl 1 rfl) ?_
    refine ti_getE (ci := 8) (v := .ref v18) hx hb hts inlX8 hown hK (hk61 _ _ (by decide) (((hm18.call hk25 (pW_not ha0 rfl)).call hk34 (pW_not ha0 rfl)).call hk43 (pW_not ha0 rfl))) rfl (by decide) (hts _ kw_117) (fun _ h9 => h9) dX8_move_88 ?_
    refine ti_geti hx hb hts inlX2 hown hK hT hv18 rfl rfl rfl 8 (by decide) (hts _ kw_861) (fun _ h9 => h9) rfl dX8_move_91 (fun v91 hv91 hm91 => ?_)
    have hrel := mind_rel hT hv18 hm84 hm91
    refine ti_callv (va_runV (As := [.int x2, .int v56, .int v77, .int v84, .int v91]) (rest := []) ⟨hx, hb, hml, hown, hts⟩ (t_X7_perform l hT ha1 (iv_w hx2 (by decide)) (iv_w hv56 (by decide)) (iv_w hv77 (by decide)) (iv_w hv84 (by decide)) (iv_w hv91 (by decide)) (fun h9 => by have b0a := (hv84).1; have b0b := (hv84).2; have b1a := (hv91).1; have b1b := (hv91).2; omega)) (cwV 5 hts (good_V kw_910 kw_767 kw_768 kw_19 kw_769) rfl rfl rfl (by decide +kernel) ⟨by rw [hR]; decide, by rw [hR]; decide⟩) (ti_preV hK hT ha1 rfl rfl) rfl rfl hl.1 rfl (lv_room (Nat.le_of_ble_eq_true rfl)) dX8_move_94 ⟨Nat.zero_le _, Nat.zero_le _⟩) hS (pW_sub rfl) (fun H locs hB hS _ hk94 => ?_)
    have hT := hB
    refine lv_aload hx hb dX8_move_97 (lv_at hl 0 rfl) ?_
    refine lv_aload_n hx hb dX8_move_99 rfl (lv_at hl 1 rfl) ?_
    refine ti_getE (ci := 8) (v := .ref v18) hx hb hts inlX8 hown hK ((hk61 _ _ (by decide) (((hm18.call hk25 (pW_not ha0 rfl)).call hk34 (pW_not ha0 rfl)).call hk43 (pW_not ha0 rfl))).call hk94 (pW_not ha0 rfl)) rfl (by decide) (hts _ kw_117) (fun _ h9 => h9) dX8_move_100 ?_
    refine ti_getE (ci := 2) (v := .int v56) hx hb hts inlX2 hown hK ((hm56.kept (oq61 _ (ne_r hv18 ha0 rfl))).call hk94 (pW_not hv18 rfl)) rfl (by decide) (hts _ kw_858) (fun _ h9 => h9) dX8_move_103 ?_
    refine lv_aload_n hx hb dX8_move_106 rfl (lv_at hl 1 rfl) ?_
    refine ti_getE (ci := 8) (v := .ref v18) hx hb hts inlX8 hown hK ((hk61 _ _ (by decide) (((hm18.call hk25 (pW_not ha0 rfl)).call hk34 (pW_not ha0 rfl)).call hk43 (pW_not ha0 rfl))).call hk94 (pW_not ha0 rfl)) rfl (by decide) (hts _ kw_117) (fun _ h9 => h9) dX8_move_107 ?_
    refine ti_getE (ci := 2) (v := .int v77) hx hb hts inlX2 hown hK (hm77.call hk94 (pW_not hv18 rfl)) rfl (by decide) (hts _ kw_859) (fun _ h9 => h9) dX8_move_110 ?_
    refine ti_calli (va_runV (As := [.int v56, .int v77]) (rest := []) ⟨hx, hb, hml, hown, hts⟩ (t_X3_pleasure l hT hv5 (iv_w hv56 (by decide)) (iv_w hv77 (by decide))) (cwV 2 hts (good_V kw_911 kw_772 kw_773 kw_68 kw_774) rfl rfl rfl (by decide +kernel) ⟨by rw [hR]; decide, by rw [hR]; decide⟩) (ti_preV hK hT hv5 rfl rfl) rfl rfl hl.1 rfl (lv_room (Nat.le_of_ble_eq_true rfl)) dX8_move_113 ⟨Nat.zero_le _, Nat.zero_le _⟩) hS (pW_sub rfl) (fun v113 H1 locs hB hS _ hk113 => ?_)
    have hH := hB
    rw [hH] at hS ⊢
    exact ret _ _ _ _ _ dX8_move_116 (hT) hS
