set_option maxHeartbeats 4000000 in
set_option maxRecDepth 100000 in
theorem t_X8_pass (l : Launch) {D : va_G} {c0 : Nat → ClassId} {Y : Nat → Option Nat} {ν : Nat → Nat} {H : Heap} (hT : TI D vwCl (tysOf c0) (RTg ν) Y H) {a0 : Nat} (ha0 : Y a0 = some 8) {a1 : Nat} (ha1 : Y a1 = some 7) {x2 : Int32} (hx2 : iv x2 0 1) : Met l yX8_pass (wz yX8_pass cX8_pass 5 none) { frames := 5, cells := 0, slots := 0, locals := 142 } (TP D vwCl (tysOf c0) H [.ref a0, .ref a1, .int x2]) (TQv (fun H' => TI D vwCl (tysOf c0) (RTg ν) Y H') Y [1, 2, 3, 4, 7, 8, 29]) 0 0 (pW Y [1, 2, 3, 4, 7, 8, 29]) := by
  refine Met.ofW (cc := cX8_pass) (maxL := 5) (ret := none) (by decide) rfl ?_
  intro p e s m args below meth c s₁ B hml hv
  obtain ⟨rfl, rfl, hK⟩ := hv
  have hx := B.exec
  have hb := B.bytes
  have hr := B.returns
  have hts : ∀ w ∈ wq, w.before _ s = true := fun w h => atoms_spec (ws := wz yX8_pass cX8_pass 5 none) B.pre w (List.mem_cons_of_mem _ h)
  have hown : s.vm.findClass RX8 = some m.cls := findClass_of_methodNamed B.named
  have hlocks := B.notSynchronized
  obtain ⟨R, hR⟩ : ∃ R : Room, R = ({ frames := 5, cells := 0, slots := 0, locals := 142 } : Room) := ⟨_, rfl⟩
  rw [show (headSpec (wz yX8_pass cX8_pass 5 none) { frames := 5, cells := 0, slots := 0, locals := 142 }).room = R from hR.symm]
  refine ti_mv hx hb hr hlocks (fun Q ret => ?_)
  have hl := lv_entry [.ref a0, .ref a1, .int x2] (n := 5) (Nat.le_of_ble_eq_true rfl)
  rw [lg_entry_eq]
  generalize (lg_sl [.ref a0, .ref a1, .int x2] ++ List.replicate (5 - (lg_sl [.ref a0, .ref a1, .int x2]).length) Slot.unset).toArray = ls at hl ⊢
  have hl : lv_has ls 5 [(0, .ref a0), (1, .ref a1), (2, .int x2)] := hl
  refine ti_gen (P := fun H => TI D vwCl (tysOf c0) (RTg ν) Y H) (Y := Y) (ws := [1, 2, 3, 4, 7, 8, 29]) hT (fun H locs hT hS => ?_)
  refine lv_aload_n hx hb dX8_pass_0 rfl (lv_at hl 0 rfl) ?_
  refine lv_iconst (v := 0) hx hb dX8_pass_1 (by decide) ?_
  refine ti_put (ty := .int) hx hb hts inlX8 tyX8 tyX8_ok nmX8 hown hK hT hS ha0 rfl rfl rfl rfl 4 (by decide) (hts _ kw_844) (fun _ h9 => h9) rfl rfl (by decide +kernel) rfl rfl ⟨(0 : Int32), rfl, iv_w (iv_c (x := (0 : Int32)) (k := 0) (by decide)) (by decide)⟩ (fun _ _ => trivial) dX8_pass_2 (fun H locs hT hS oq2 he2 hk2 => ?_)
  refine lv_aload_n hx hb dX8_pass_5 rfl (lv_at hl 0 rfl) ?_
  refine lv_iconst (v := 0) hx hb dX8_pass_6 (by decide) ?_
  refine ti_put (ty := .int) hx hb hts inlX8 tyX8 tyX8_ok nmX8 hown hK hT hS ha0 rfl rfl rfl rfl 3 (by decide) (hts _ kw_845) (fun _ h9 => h9) rfl rfl (by decide +kernel) rfl rfl ⟨(0 : Int32), rfl, iv_w (iv_c (x := (0 : Int32)) (k := 0) (by decide)) (by decide)⟩ (fun _ _ => trivial) dX8_pass_7 (fun H locs hT hS oq7 he7 hk7 => ?_)
  refine lv_iconst (v := 0) hx hb dX8_pass_10 (by decide) ?_
  have J12 : ∀ (n : Nat) (j12_L3 : Int32) (H : Heap) (locs : List Loc) (ls : Array Slot), (8 - j12_L3.toInt).toNat < n → iv j12_L3 0 8 → TI D vwCl (tysOf c0) (RTg ν) Y H → va_S (pW Y [1, 2, 3, 4, 7, 8, 29]) s.heap H locs → lv_has ls 5 [(0, .ref a0), (1, .ref a1), (2, .int x2), (3, .int j12_L3)] → W p l e R s m ([.ref a0, .ref a1, .int x2] : List Value).toArray below meth c H locs 0 0 Q (F0 m 12 ls []) := by
    intro n
    induction n with
    | zero => intro j12_L3 H locs ls hms; exact absurd hms (Nat.not_lt_zero _)
    | succ n ih12 =>
      intro j12_L3 H locs ls hms12 hj12_L3 hT hS hl
      refine lv_iload_n hx hb dX8_pass_12 rfl (lv_at hl 3 rfl) ?_
      refine lv_aload_n hx hb dX8_pass_13 rfl (lv_at hl 1 rfl) ?_
      refine ti_geti hx hb hts inlX7 hown hK hT ha1 rfl rfl rfl 1 (by decide) (hts _ kw_846) (fun _ h9 => h9) rfl dX8_pass_14 (fun v14 hv14 hm14 => ?_)
      refine lv_icmp_ge (tgt := 39) hx hb dX8_pass_17 (by decide) (fun c17 => ?_) (fun c17 => ?_)
      · skip
        have f17 := i_le c17
        refine lv_iload_n hx hb dX8_pass_39 rfl (lv_at hl 2 rfl) ?_
        have J62 : ∀  (H : Heap) (locs : List Loc) (ls : Array Slot), TI D vwCl (tysOf c0) (RTg ν) Y H → va_S (pW Y [1, 2, 3, 4, 7, 8, 29]) s.heap H locs → lv_has ls 5 [(0, .ref a0), (1, .ref a1), (2, .int x2), (3, .int j12_L3)] → W p l e R s m ([.ref a0, .ref a1, .int x2] : List Value).toArray below meth c H locs 0 0 Q (F0 m 62 ls []) := by
          intro  H locs ls  hT hS hl
          refine lv_iconst (v := 0) hx hb dX8_pass_62 (by decide) ?_
          have J64 : ∀ (n : Nat) (j64_L3 : Int32) (H : Heap) (locs : List Loc) (ls : Array Slot), (8 - j64_L3.toInt).toNat < n → iv j64_L3 0 8 → TI D vwCl (tysOf c0) (RTg ν) Y H → va_S (pW Y [1, 2, 3, 4, 7, 8, 29]) s.heap H locs → lv_has ls 5 [(0, .ref a0), (1, .ref a1), (2, .int x2), (3, .int j64_L3)] → W p l e R s m ([.ref a0, .ref a1, .int x2] : List Value).toArray below meth c H locs 0 0 Q (F0 m 64 ls []) := by
            intro n
            induction n with
            | zero => intro j64_L3 H locs ls hms; exact absurd hms (Nat.not_lt_zero _)
            | succ n ih64 =>
              intro j64_L3 H locs ls hms64 hj64_L3 hT hS hl
              refine lv_iload_n hx hb dX8_pass_64 rfl (lv_at hl 3 rfl) ?_
              refine lv_aload_n hx hb dX8_pass_65 rfl (lv_at hl 1 rfl) ?_
              refine ti_geti hx hb hts inlX7 hown hK hT ha1 rfl rfl rfl 1 (by decide) (hts _ kw_846) (fun _ h9 => h9) rfl dX8_pass_66 (fun v66 hv66 hm66 => ?_)
              refine lv_icmp_ge (tgt := 114) hx hb dX8_pass_69 (by decide) (fun c69 => ?_) (fun c69 => ?_)
              · skip
                have f69 := i_le c69
                refine lv_aload_n hx hb dX8_pass_114 rfl (lv_at hl 1 rfl) ?_
                refine lv_dup hx hb dX8_pass_115 rfl ?_
                refine ti_geti hx hb hts inlX7 hown hK hT ha1 rfl rfl rfl 4 (by decide) (hts _ kw_852) (fun _ h9 => h9) rfl dX8_pass_116 (fun v116 hv116 hm116 => ?_)
                refine lv_iconst (v := 1) hx hb dX8_pass_119 (by decide) ?_
                refine lv_iadd hx hb dX8_pass_120 ?_
                refine lv_topi (fun v120 e120 => ?_)
                have hv120 : iv v120 (-2147483648) 2147483647 := iv_top _
                refine ti_put (ty := .int) hx hb hts inlX7 tyX7 tyX7_ok nmX7 hown hK hT hS ha1 rfl rfl rfl rfl 4 (by decide) (hts _ kw_852) (fun _ h9 => h9) rfl rfl (by decide +kernel) rfl rfl ⟨v120, rfl, iv_w hv120 (by decide)⟩ (fun _ _ => trivial) dX8_pass_121 (fun H locs hT hS oq121 he121 hk121 => ?_)
                exact ret _ _ _ _ dX8_pass_124 (hT) hS
              · skip
                have f69 := i_nle c69
                have hj64_L3_69l : iv j64_L3 0 7 := iv_ltl hj64_L3 hv66 (Int32.not_le.mp c69) (by decide)
                have hv66_69r : iv v66 1 8 := iv_ltr hj64_L3_69l hv66 (Int32.not_le.mp c69) (by decide)
                refine lv_aload_n hx hb dX8_pass_72 rfl (lv_at hl 1 rfl) ?_
                refine ti_getr hx hb hts inlX7 hown hK hT ha1 rfl rfl rfl 8 (by decide) (hts _ kw_848) (fun _ h9 => h9) rfl dX8_pass_73 (fun v73 hv73 hm73 => ?_)
                refine lv_iload_n hx hb dX8_pass_76 rfl (lv_at hl 3 rfl) ?_
                refine ti_aald hx hb (aT6 hK) hT hv73 rfl hj64_L3_69l (by decide) (fun _ _ _ => rfl) dX8_pass_77 (fun v77 hv77 => ?_)
                refine lv_astore (lv' := [(4, .ref v77), (0, .ref a0), (1, .ref a1), (2, .int x2), (3, .int j64_L3)]) hx hb dX8_pass_78 hl (by decide) rfl (fun ls hl => ?_)
                refine lv_aload hx hb dX8_pass_80 (lv_at hl 0 rfl) ?_
                refine lv_dup hx hb dX8_pass_82 rfl ?_
                refine ti_geti hx hb hts inlX3 hown hK hT hv77 rfl rfl rfl 4 (by decide) (hts _ kw_849) (fun _ h9 => h9) rfl dX8_pass_83 (fun v83 hv83 hm83 => ?_)
                refine lv_aload hx hb dX8_pass_86 (lv_at hl 0 rfl) ?_
                refine ti_geti hx hb hts inlX3 hown hK hT hv77 rfl rfl rfl 7 (by decide) (hts _ kw_850) (fun _ h9 => h9) rfl dX8_pass_88 (fun v88 hv88 hm88 => ?_)
                refine lv_aload hx hb dX8_pass_91 (lv_at hl 0 rfl) ?_
                refine ti_geti hx hb hts inlX3 hown hK hT hv77 rfl rfl rfl 0 (by decide) (hts _ kw_851) (fun _ h9 => h9) rfl dX8_pass_93 (fun v93 hv93 hm93 => ?_)
                refine lv_imul hx hb dX8_pass_96 ?_
                refine lv_topi (fun v96 e96 => ?_)
                have hv96 : iv v96 (-2147483648) 2147483647 := iv_top _
                refine lv_aload_n hx hb dX8_pass_97 rfl (lv_at hl 1 rfl) ?_
                refine ti_getr hx hb hts inlX8 hown hK hT ha0 rfl rfl rfl 2 (by decide) (hts _ kw_120) (fun _ h9 => h9) rfl dX8_pass_98 (fun v98 hv98 hm98 => ?_)
                refine lv_iload_n hx hb dX8_pass_101 rfl (lv_at hl 4 rfl) ?_
                refine ti_iald (lo := (-2147483648)) (hi := 2147483647) hx hb (aT0 hK) hT hv98 rfl hj64_L3_69l (by decide) (fun _ _ _ => ⟨_, _, rfl, by decide, by decide⟩) dX8_pass_102 (fun v102 hv102 hm102 => ?_)
                refine lv_iadd hx hb dX8_pass_103 ?_
                refine lv_topi (fun v103 e103 => ?_)
                have hv103 : iv v103 (-2147483648) 2147483647 := iv_top _
                refine lv_iadd hx hb dX8_pass_104 ?_
                refine lv_topi (fun v104 e104 => ?_)
                have hv104 : iv v104 (-2147483648) 2147483647 := iv_top _
                refine ti_put (ty := .int) hx hb hts inlX3 tyX3 tyX3_ok nmX3 hown hK hT hS hv77 rfl rfl rfl rfl 4 (by decide) (hts _ kw_849) (fun _ h9 => h9) rfl rfl (by decide +kernel) rfl rfl ⟨v104, rfl, iv_w hv104 (by decide)⟩ (fun _ _ => trivial) dX8_pass_105 (fun H locs hT hS oq105 he105 hk105 => ?_)
                obtain ⟨v108, e108⟩ : ∃ y : Int32, y = j64_L3 + 1 := ⟨_, rfl⟩
                have hv108 : iv v108 1 8 := by rw [e108]; exact iv_w (iv_add hj64_L3_69l (iv_c (x := (1 : Int32)) (k := 1) (by decide)) (by decide)) (by decide)
                have s108 : v108.toInt = j64_L3.toInt + 1 := by rw [e108, iv_addE hj64_L3_69l (iv_c (x := (1 : Int32)) (k := 1) (by decide)) (by decide)]; rfl
                refine lv_iinc (v := v108) (lv' := [(3, .int v108), (4, .ref v77), (0, .ref a0), (1, .ref a1), (2, .int x2)]) hx hb dX8_pass_108 hl (k := 4) rfl (by rw [e108]; rfl) (by decide) rfl (fun ls hl => ?_)
                refine lv_goto (tgt := 64) hx hb dX8_pass_111 (by decide) ?_
                exact ih64 v108 _ _ _ (ms_up hms64 (by have := s108; omega) (iv_w (c := 1) (d := 8) hv108 (by decide)).2) (iv_w hv108 (by decide)) hT hS (lv_sub hl [2, 3, 4, 0] rfl)
          refine lv_istore_n (lv' := [(3, .int (0 : Int32)), (0, .ref a0), (1, .ref a1), (2, .int x2)]) hx hb dX8_pass_63 rfl hl (by decide) rfl (fun ls hl => ?_)
          exact J64 _ (0 : Int32) _ _ _ (Nat.lt_succ_self _) (iv_w (iv_c (x := (0 : Int32)) (k := 0) (by decide)) (by decide)) hT hS (lv_sub hl [1, 2, 3, 0] rfl)
        refine lv_if_eq (tgt := 62) hx hb dX8_pass_40 (by decide) (fun c40 => ?_) (fun c40 => ?_)
        · skip
          have kl0 : (0 : Int32).toInt = 0 := by decide
          have f40 := i_eq c40
          have hx2_40l : iv x2 0 0 := iv_eql hx2 (iv_c (x := (0 : Int32)) (k := 0) (by decide)) c40 (by decide)
          exact J62  _ _ _   hT hS (lv_sub hl [0, 1, 2, 3] rfl)
        · skip
          have kl0 : (0 : Int32).toInt = 0 := by decide
          have f40 := i_ne c40
          have hx2_40l : iv x2 1 1 := iv_nel hx2 (iv_c (x := (0 : Int32)) (k := 0) (by decide)) c40 (by decide)
          refine lv_aload_n hx hb dX8_pass_43 rfl (lv_at hl 1 rfl) ?_
          refine lv_aload_n hx hb dX8_pass_44 rfl (lv_at hl 0 rfl) ?_
          refine ti_getr hx hb hts inlX8 hown hK hT ha0 rfl rfl rfl 1 (by decide) (hts _ kw_119) (fun _ h9 => h9) rfl dX8_pass_45 (fun v45 hv45 hm45 => ?_)
          refine ti_callv (va_runV (As := [.ref v45]) (rest := []) ⟨hx, hb, hml, hown, hts⟩ (t_X7_strikeOn l hT ha1 hv45) (cwV 1 hts (good_V kw_930 kw_662 kw_663 kw_19 kw_664) rfl rfl rfl (by decide +kernel) ⟨by rw [hR]; decide, by rw [hR]; decide⟩) (ti_preV hK hT ha1 rfl rfl) rfl rfl hl.1 rfl (lv_room (Nat.le_of_ble_eq_true rfl)) dX8_pass_48 ⟨Nat.zero_le _, Nat.zero_le _⟩) hS (pW_sub rfl) (fun H locs hB hS _ hk48 => ?_)
          have hT := hB
          refine lv_aload_n hx hb dX8_pass_51 rfl (lv_at hl 0 rfl) ?_
          refine lv_aload_n hx hb dX8_pass_52 rfl (lv_at hl 0 rfl) ?_
          refine ti_getE (ci := 8) (v := .ref v45) hx hb hts inlX8 hown hK (hm45.call hk48 (pW_not ha0 rfl)) rfl (by decide) (hts _ kw_119) (fun _ h9 => h9) dX8_pass_53 ?_
          refine ti_geti hx hb hts inlX4 hown hK hT hv45 rfl rfl rfl 10 (by decide) (hts _ kw_847) (fun _ h9 => h9) rfl dX8_pass_56 (fun v56 hv56 hm56 => ?_)
          refine ti_put (ty := .int) hx hb hts inlX8 tyX8 tyX8_ok nmX8 hown hK hT hS ha0 rfl rfl rfl rfl 3 (by decide) (hts _ kw_845) (fun _ h9 => h9) rfl rfl (by decide +kernel) rfl rfl ⟨v56, rfl, iv_w hv56 (by decide)⟩ (fun _ _ => trivial) dX8_pass_59 (fun H locs hT hS oq59 he59 hk59 => ?_)
          exact J62  _ _ _   hT hS (lv_sub hl [0, 1, 2, 3] rfl)
      · skip
        have f17 := i_nle c17
        have hj12_L3_17l : iv j12_L3 0 7 := iv_ltl hj12_L3 hv14 (Int32.not_le.mp c17) (by decide)
        have hv14_17r : iv v14 1 8 := iv_ltr hj12_L3_17l hv14 (Int32.not_le.mp c17) (by decide)
        refine lv_aload_n hx hb dX8_pass_20 rfl (lv_at hl 0 rfl) ?_
        refine ti_getr hx hb hts inlX8 hown hK hT ha0 rfl rfl rfl 2 (by decide) (hts _ kw_120) (fun _ h9 => h9) rfl dX8_pass_21 (fun v21 hv21 hm21 => ?_)
        refine lv_iload_n hx hb dX8_pass_24 rfl (lv_at hl 3 rfl) ?_
        refine lv_aload_n hx hb dX8_pass_25 rfl (lv_at hl 0 rfl) ?_
        refine lv_aload_n hx hb dX8_pass_26 rfl (lv_at hl 1 rfl) ?_
        refine lv_iload_n hx hb dX8_pass_27 rfl (lv_at hl 3 rfl) ?_
        refine lv_iload_n hx hb dX8_pass_28 rfl (lv_at hl 2 rfl) ?_
        refine ti_calli (va_runV (As := [.ref a1, .int j12_L3, .int x2]) (rest := [.int j12_L3, .ref v21]) ⟨hx, hb, hml, hown, hts⟩ (t_X8_move l hT ha0 ha1 (iv_w hj12_L3_17l (by decide)) (iv_w hx2 (by decide))) (cwV 3 hts (good_V kw_853 kw_854 kw_855 kw_37 kw_856) rfl rfl rfl (by decide +kernel) ⟨by rw [hR]; decide, by rw [hR]; decide⟩) (ti_preV hK hT ha0 rfl rfl) rfl rfl hl.1 rfl (lv_room (Nat.le_of_ble_eq_true rfl)) dX8_pass_29 ⟨Nat.zero_le _, Nat.zero_le _⟩) hS (pW_sub rfl) (fun v29 H locs hB hS _ hk29 => ?_)
        have hT := hB
        refine ti_iast hx hb (aT0 hK) hT hS hv21 rfl rfl hj12_L3_17l (by decide) (fun _ _ _ => ⟨_, _, rfl, by decide, by decide⟩) (iv_top v29) (fun _ _ => trivial) dX8_pass_32 (fun H locs hT hS oq32 he32 hk32 => ?_)
        obtain ⟨v33, e33⟩ : ∃ y : Int32, y = j12_L3 + 1 := ⟨_, rfl⟩
        have hv33 : iv v33 1 8 := by rw [e33]; exact iv_w (iv_add hj12_L3_17l (iv_c (x := (1 : Int32)) (k := 1) (by decide)) (by decide)) (by decide)
        have s33 : v33.toInt = j12_L3.toInt + 1 := by rw [e33, iv_addE hj12_L3_17l (iv_c (x := (1 : Int32)) (k := 1) (by decide)) (by decide)]; rfl
        refine lv_iinc (v := v33) (lv' := [(3, .int v33), (0, .ref a0), (1, .ref a1), (2, .int x2)]) hx hb dX8_pass_33 hl (k := 3) rfl (by rw [e33]; rfl) (by decide) rfl (fun ls hl => ?_)
        refine lv_goto (tgt := 12) hx hb dX8_pass_36 (by decide) ?_
        exact ih12 v33 _ _ _ (ms_up hms12 (by have := s33; omega) (iv_w (c := 1) (d := 8) hv33 (by decide)).2) (iv_w hv33 (by decide)) hT hS (lv_sub hl [1, 2, 3, 0] rfl)
  refine lv_istore_n (lv' := [(3, .int (0 : Int32)), (0, .ref a0), (1, .ref a1), (2, .int x2)]) hx hb dX8_pass_11 rfl hl (by decide) rfl (fun ls hl => ?_)
  exact J12 _ (0 : Int32) _ _ _ (Nat.lt_succ_self _) (iv_w (iv_c (x := (0 : Int32)) (k := 0) (by decide)) (by decide)) hT hS (lv_sub hl [1, 2, 3, 0] rfl)
set_option maxHeartbeats 4000000 in
set_option maxRecDepth 100000 in
theorem t_X8_lossOf (l : Launch) {D : va_G} {c0 : Nat → ClassId} {Y : Nat → Option Nat} {ν : Nat → Nat} {H : Heap} (hT : TI D vwCl (tysOf c0) (RTg ν) Y H) {a0 : Nat} (ha0 : Y a0 = some 8) {x1 : Int32} (hx1 : iv x1 0 7) : Met l yX8_lossOf (wz yX8_lossOf cX8_lossOf 2 (some .int)) { frames := 1, cells := 0, slots := 0, locals := 21 } (TP D vwCl (tysOf c0) H [.ref a0, .int x1]) (TQi (fun x H' => H' = H) Y []) 0 0 (pW Y []) := by
  refine Met.ofW (cc := cX8_lossOf) (maxL := 2) (ret := (some .int)) (by decide) rfl ?_
  intro p e s m args below meth c s₁ B hml hv
  obtain ⟨rfl, rfl, hK⟩ := hv
  have hx := B.exec
  have hb := B.bytes
  have hr := B.returns
  have hts : ∀ w ∈ wq, w.before _ s = true := fun w h => atoms_spec (ws := wz yX8_lossOf cX8_lossOf 2 (some .int)) B.pre w (List.mem_cons_of_mem _ h)
  have hown : s.vm.findClass RX8 = some m.cls := findClass_of_methodNamed B.named
  have hlocks := B.notSynchronized
  obtain ⟨R, hR⟩ : ∃ R : Room, R = ({ frames := 1, cells := 0, slots := 0, locals := 21 } : Room) := ⟨_, rfl⟩
  rw [show (headSpec (wz yX8_lossOf cX8_lossOf 2 (some .int)) { frames := 1, cells := 0, slots := 0, locals := 21 }).room = R from hR.symm]
  refine ti_mi hx hb hr hlocks (fun Q ret => ?_)
  have hl := lv_entry [.ref a0, .int x1] (n := 2) (Nat.le_of_ble_eq_true rfl)
  rw [lg_entry_eq]
  generalize (lg_sl [.ref a0, .int x1] ++ List.replicate (2 - (lg_sl [.ref a0, .int x1]).length) Slot.unset).toArray = ls at hl ⊢
  have hl : lv_has ls 2 [(0, .ref a0), (1, .int x1)] := hl
  have hS : va_S (pW Y []) s.heap s.heap [] := va_S.rf
  refine lv_aload_n hx hb dX8_lossOf_0 rfl (lv_at hl 0 rfl) ?_
  refine ti_getr hx hb hts inlX8 hown hK hT ha0 rfl rfl rfl 1 (by decide) (hts _ kw_119) (fun _ h9 => h9) rfl dX8_lossOf_1 (fun v1 hv1 hm1 => ?_)
  refine lv_iload_n hx hb dX8_lossOf_4 rfl (lv_at hl 1 rfl) ?_
  refine ti_calli (va_runV (As := [.int x1]) (rest := []) ⟨hx, hb, hml, hown, hts⟩ (t_X4_lossOf l hT hv1 (iv_w hx1 (by decide))) (cwV 1 hts (good_V kw_1373 kw_638 kw_639 kw_29 kw_640) rfl rfl rfl (by decide +kernel) ⟨by rw [hR]; decide, by rw [hR]; decide⟩) (ti_preV hK hT hv1 rfl rfl) rfl rfl hl.1 rfl (lv_room (Nat.le_of_ble_eq_true rfl)) dX8_lossOf_5 ⟨Nat.zero_le _, Nat.zero_le _⟩) hS (pW_sub rfl) (fun v5 H1 locs hB hS _ hk5 => ?_)
  have hH := hB
  rw [hH] at hS ⊢
  exact ret _ _ _ _ _ dX8_lossOf_8 (rfl) hS
set_option maxHeartbeats 4000000 in
set_option maxRecDepth 100000 in
theorem t_X9_feed (l : Launch) {D : va_G} {c0 : Nat → ClassId} {Y : Nat → Option Nat} {ν : Nat → Nat} {H : Heap} (hT : TI D vwCl (tysOf c0) (RTg ν) Y H) {a0 : Nat} (ha0 : Y a0 = some 9) {x1 : Int32} (hx1 : iv x1 (-2147483648) 2147483647) {x2 : Int32} (hx2 : iv x2 (-2147483648) 2147483647) {x3 : Int32} (hx3 : iv x3 (-2147483648) 2147483647) {x4 : Int32} (hx4 : iv x4 (-2147483648) 2147483647) {x5 : Int32} (hx5 : iv x5 (-2147483648) 2147483647) : Met l yX9_feed (wz yX9_feed cX9_feed 6 (some .int)) { frames := 1, cells := 0, slots := 0, locals := 22 } (TP D vwCl (tysOf c0) H [.ref a0, .int x1, .int x2, .int x3, .int x4, .int x5]) (TQi (fun x H' => TI D vwCl (tysOf c0) (RTg ν) Y H' ∧ iv x (-1) 1600) Y [6, 26]) 0 0 (pW Y [6, 26]) := by
  refine Met.ofW (cc := cX9_feed) (maxL := 6) (ret := (some .int)) (by decide) rfl ?_
  intro p e s m args below meth c s₁ B hml hv
  obtain ⟨rfl, rfl, hK⟩ := hv
  have hx := B.exec
  have hb := B.bytes
  have hr := B.returns
  have hts : ∀ w ∈ wq, w.before _ s = true := fun w h => atoms_spec (ws := wz yX9_feed cX9_feed 6 (some .int)) B.pre w (List.mem_cons_of_mem _ h)
  have hown : s.vm.findClass RX9 = some m.cls := findClass_of_methodNamed B.named
  have hlocks := B.notSynchronized
  obtain ⟨R, hR⟩ : ∃ R : Room, R = ({ frames := 1, cells := 0, slots := 0, locals := 22 } : Room) := ⟨_, rfl⟩
  rw [show (headSpec (wz yX9_feed cX9_feed 6 (some .int)) { frames := 1, cells := 0, slots := 0, locals := 22 }).room = R from hR.symm]
  refine ti_mi hx hb hr hlocks (fun Q ret => ?_)
  have hl := lv_entry [.ref a0, .int x1, .int x2, .int x3, .int x4, .int x5] (n := 6) (Nat.le_of_ble_eq_true rfl)
  rw [lg_entry_eq]
  generalize (lg_sl [.ref a0, .int x1, .int x2, .int x3, .int x4, .int x5] ++ List.replicate (6 - (lg_sl [.ref a0, .int x1, .int x2, .int x3, .int x4, .int x5]).length) Slot.unset).toArray = ls at hl ⊢
  have hl : lv_has ls 6 [(0, .ref a0), (1, .int x1), (2, .int x2), (3, .int x3), (4, .int x4), (5, .int x5)] := hl
  refine ti_gen (P := fun H => TI D vwCl (tysOf c0) (RTg ν) Y H) (Y := Y) (ws := [6, 26]) hT (fun H locs hT hS => ?_)
  refine lv_aload_n hx hb dX9_feed_0 rfl (lv_at hl 0 rfl) ?_
  refine ti_getr hx hb hts inlX9 hown hK hT ha0 rfl rfl rfl 0 (by decide) (hts _ kw_16) (fun _ h9 => h9) rfl dX9_feed_1 (fun v1 hv1 hm1 => ?_)
  refine ti_geti hx hb hts inlX6 hown hK hT hv1 rfl rfl rfl 1 (by decide) (hts _ kw_162) (fun _ h9 => h9) rfl dX9_feed_4 (fun v4 hv4 hm4 => ?_)
  refine lv_bipush (v := 20) hx hb dX9_feed_7 (by decide) ?_
  refine lv_iadd hx hb dX9_feed_9 ?_
  refine lv_topi (fun v9 e9 => ?_)
  have hv9 : iv v9 20 1620 := by rw [e9]; exact iv_w (iv_add hv4 (iv_c (x := (20 : Int32)) (k := 20) (by decide)) (by decide)) (by decide)
  have s9 : v9.toInt = v4.toInt + 20 := by rw [e9, iv_addE hv4 (iv_c (x := (20 : Int32)) (k := 20) (by decide)) (by decide)]; rfl
  have kl20 : (20 : Int32).toInt = 20 := by decide
  refine lv_sipush (v := 1600) hx hb dX9_feed_10 (by decide) ?_
  refine lv_icmp_le (tgt := 18) hx hb dX9_feed_13 (by decide) (fun c13 => ?_) (fun c13 => ?_)
  · skip
    have kl1600 : (1600 : Int32).toInt = 1600 := by decide
    have f13 := i_le c13
    have hv9_13l : iv v9 20 1600 := iv_lel hv9 (iv_c (x := (1600 : Int32)) (k := 1600) (by decide)) c13 (by decide)
    have hq13_15 : iv v4 0 1580 := by have b0a := (hv9_13l).1; have b0b := (hv9_13l).2; have b1a := (hv4).1; have b1b := (hv4).2; exact ⟨by omega, by omega⟩
    refine lv_aload_n hx hb dX9_feed_18 rfl (lv_at hl 0 rfl) ?_
    refine ti_getE (ci := 9) (v := .ref v1) hx hb hts inlX9 hown hK hm1 rfl (by decide) (hts _ kw_16) (fun _ h9 => h9) dX9_feed_19 ?_
    refine lv_iload_n hx hb dX9_feed_22 rfl (lv_at hl 1 rfl) ?_
    refine ti_callv (va_runV (As := [.int x1]) (rest := []) ⟨hx, hb, hml, hown, hts⟩ (t_X6_add l hT hv1 (iv_w hx1 (by decide))) (cwV 1 hts (good_V kw_163 kw_164 kw_165 kw_15 kw_166) rfl rfl rfl (by decide +kernel) ⟨by rw [hR]; decide, by rw [hR]; decide⟩) (ti_preV hK hT hv1 rfl rfl) rfl rfl hl.1 rfl (lv_room (Nat.le_of_ble_eq_true rfl)) dX9_feed_23 ⟨Nat.zero_le _, Nat.zero_le _⟩) hS (pW_sub rfl) (fun H locs hB hS _ hk23 => ?_)
    have hT := hB
    refine lv_aload_n hx hb dX9_feed_26 rfl (lv_at hl 0 rfl) ?_
    refine ti_getE (ci := 9) (v := .ref v1) hx hb hts inlX9 hown hK (hm1.call hk23 (pW_not ha0 rfl)) rfl (by decide) (hts _ kw_16) (fun _ h9 => h9) dX9_feed_27 ?_
    refine lv_iload_n hx hb dX9_feed_30 rfl (lv_at hl 2 rfl) ?_
    refine ti_callv (va_runV (As := [.int x2]) (rest := []) ⟨hx, hb, hml, hown, hts⟩ (t_X6_add l hT hv1 (iv_w hx2 (by decide))) (cwV 1 hts (good_V kw_163 kw_164 kw_165 kw_15 kw_166) rfl rfl rfl (by decide +kernel) ⟨by rw [hR]; decide, by rw [hR]; decide⟩) (ti_preV hK hT hv1 rfl rfl) rfl rfl hl.1 rfl (lv_room (Nat.le_of_ble_eq_true rfl)) dX9_feed_31 ⟨Nat.zero_le _, Nat.zero_le _⟩) hS (pW_sub rfl) (fun H locs hB hS _ hk31 => ?_)
    have hT := hB
    refine lv_aload_n hx hb dX9_feed_34 rfl (lv_at hl 0 rfl) ?_
    refine ti_getE (ci := 9) (v := .ref v1) hx hb hts inlX9 hown hK ((hm1.call hk23 (pW_not ha0 rfl)).call hk31 (pW_not ha0 rfl)) rfl (by decide) (hts _ kw_16) (fun _ h9 => h9) dX9_feed_35 ?_
    refine lv_iload_n hx hb dX9_feed_38 rfl (lv_at hl 3 rfl) ?_
    refine ti_callv (va_runV (As := [.int x3]) (rest := []) ⟨hx, hb, hml, hown, hts⟩ (t_X6_add l hT hv1 (iv_w hx3 (by decide))) (cwV 1 hts (good_V kw_163 kw_164 kw_165 kw_15 kw_166) rfl rfl rfl (by decide +kernel) ⟨by rw [hR]; decide, by rw [hR]; decide⟩) (ti_preV hK hT hv1 rfl rfl) rfl rfl hl.1 rfl (lv_room (Nat.le_of_ble_eq_true rfl)) dX9_feed_39 ⟨Nat.zero_le _, Nat.zero_le _⟩) hS (pW_sub rfl) (fun H locs hB hS _ hk39 => ?_)
    have hT := hB
    refine lv_aload_n hx hb dX9_feed_42 rfl (lv_at hl 0 rfl) ?_
    refine ti_getE (ci := 9) (v := .ref v1) hx hb hts inlX9 hown hK (((hm1.call hk23 (pW_not ha0 rfl)).call hk31 (pW_not ha0 rfl)).call hk39 (pW_not ha0 rfl)) rfl (by decide) (hts _ kw_16) (fun _ h9 => h9) dX9_feed_43 ?_
    refine lv_iload hx hb dX9_feed_46 (lv_at hl 4 rfl) ?_
    refine ti_callv (va_runV (As := [.int x4]) (rest := []) ⟨hx, hb, hml, hown, hts⟩ (t_X6_add l hT hv1 (iv_w hx4 (by decide))) (cwV 1 hts (good_V kw_163 kw_164 kw_165 kw_15 kw_166) rfl rfl rfl (by decide +kernel) ⟨by rw [hR]; decide, by rw [hR]; decide⟩) (ti_preV hK hT hv1 rfl rfl) rfl rfl hl.1 rfl (lv_room (Nat.le_of_ble_eq_true rfl)) dX9_feed_48 ⟨Nat.zero_le _, Nat.zero_le _⟩) hS (pW_sub rfl) (fun H locs hB hS _ hk48 => ?_)
    have hT := hB
    refine lv_aload_n hx hb dX9_feed_51 rfl (lv_at hl 0 rfl) ?_
    refine ti_getE (ci := 9) (v := .ref v1) hx hb hts inlX9 hown hK ((((hm1.call hk23 (pW_not ha0 rfl)).call hk31 (pW_not ha0 rfl)).call hk39 (pW_not ha0 rfl)).call hk48 (pW_not ha0 rfl)) rfl (by decide) (hts _ kw_16) (fun _ h9 => h9) dX9_feed_52 ?_
    refine lv_iload hx hb dX9_feed_55 (lv_at hl 5 rfl) ?_
    refine ti_callv (va_runV (As := [.int x5]) (rest := []) ⟨hx, hb, hml, hown, hts⟩ (t_X6_add l hT hv1 (iv_w hx5 (by decide))) (cwV 1 hts (good_V kw_163 kw_164 kw_165 kw_15 kw_166) rfl rfl rfl (by decide +kernel) ⟨by rw [hR]; decide, by rw [hR]; decide⟩) (ti_preV hK hT hv1 rfl rfl) rfl rfl hl.1 rfl (lv_room (Nat.le_of_ble_eq_true rfl)) dX9_feed_57 ⟨Nat.zero_le _, Nat.zero_le _⟩) hS (pW_sub rfl) (fun H locs hB hS _ hk57 => ?_)
    have hT := hB
    refine lv_aload_n hx hb dX9_feed_60 rfl (lv_at hl 0 rfl) ?_
    refine ti_getE (ci := 9) (v := .ref v1) hx hb hts inlX9 hown hK (((((hm1.call hk23 (pW_not ha0 rfl)).call hk31 (pW_not ha0 rfl)).call hk39 (pW_not ha0 rfl)).call hk48 (pW_not ha0 rfl)).call hk57 (pW_not ha0 rfl)) rfl (by decide) (hts _ kw_16) (fun _ h9 => h9) dX9_feed_61 ?_
    refine ti_geti hx hb hts inlX6 hown hK hT hv1 rfl rfl rfl 1 (by decide) (hts _ kw_162) (fun _ h9 => h9) rfl dX9_feed_64 (fun v64 hv64 hm64 => ?_)
    exact ret _ _ _ _ _ dX9_feed_67 (⟨hT, iv_w hv64 (by decide)⟩) hS
  · skip
    have kl1600 : (1600 : Int32).toInt = 1600 := by decide
    have f13 := i_nle c13
    have hv9_13r : iv v9 1601 1620 := iv_ltr (iv_c (x := (1600 : Int32)) (k := 1600) (by decide)) hv9 (Int32.not_le.mp c13) (by decide)
    have hq13_16 : iv v4 1581 1600 := by have b0a := (hv9_13r).1; have b0b := (hv9_13r).2; have b1a := (hv4).1; have b1b := (hv4).2; exact ⟨by omega, by omega⟩
    refine lv_iconst (v := (-1)) hx hb dX9_feed_16 (by decide) ?_
    exact ret _ _ _ _ _ dX9_feed_17 (⟨hT, iv_w (iv_c (x := (-1 : Int32)) (k := (-1)) (by decide)) (by decide)⟩) hS
set_option maxHeartbeats 4000000 in
set_option maxRecDepth 100000 in
theorem t_X9_end (l : Launch) {D : va_G} {c0 : Nat → ClassId} {Y : Nat → Option Nat} {ν : Nat → Nat} {H : Heap} (hT : TI D vwCl (tysOf c0) (RTg ν) Y H) {a0 : Nat} (ha0 : Y a0 = some 9) {x1 : Int32} (hx1 : iv x1 (-2147483648) 2147483647) : Met l yX9_end (wz yX9_end cX9_end 2 (some .int)) { frames := 0, cells := 0, slots := 0, locals := 0 } (TP D vwCl (tysOf c0) H [.ref a0, .int x1]) (TQi (fun x H' => TI D vwCl (tysOf c0) (RTg ν) Y H' ∧ iv x (-1) 1600) Y [6]) 0 0 (pW Y [6]) := by
  refine Met.ofW (cc := cX9_end) (maxL := 2) (ret := (some .int)) (by decide) rfl ?_
  intro p e s m args below meth c s₁ B hml hv
  obtain ⟨rfl, rfl, hK⟩ := hv
  have hx := B.exec
  have hb := B.bytes
  have hr := B.returns
  have hts : ∀ w ∈ wq, w.before _ s = true := fun w h => atoms_spec (ws := wz yX9_end cX9_end 2 (some .int)) B.pre w (List.mem_cons_of_mem _ h)
  have hown : s.vm.findClass RX9 = some m.cls := findClass_of_methodNamed B.named
  have hlocks := B.notSynchronized
  obtain ⟨R, hR⟩ : ∃ R : Room, R = ({ frames := 0, cells := 0, slots := 0, locals := 0 } : Room) := ⟨_, rfl⟩
  rw [show (headSpec (wz yX9_end cX9_end 2 (some .int)) { frames := 0, cells := 0, slots := 0, locals := 0 }).room = R from hR.symm]
  refine ti_mi hx hb hr hlocks (fun Q ret => ?_)
  have hl := lv_entry [.ref a0, .int x1] (n := 2) (Nat.le_of_ble_eq_true rfl)
  rw [lg_entry_eq]
  generalize (lg_sl [.ref a0, .int x1] ++ List.replicate (2 - (lg_sl [.ref a0, .int x1]).length) Slot.unset).toArray = ls at hl ⊢
  have hl : lv_has ls 2 [(0, .ref a0), (1, .int x1)] := hl
  refine ti_gen (P := fun H => TI D vwCl (tysOf c0) (RTg ν) Y H) (Y := Y) (ws := [6]) hT (fun H locs hT hS => ?_)
  refine lv_iload_n hx hb dX9_end_0 rfl (lv_at hl 1 rfl) ?_
  refine lv_if_lt (tgt := 15) hx hb dX9_end_1 (by decide) (fun c1 => ?_) (fun c1 => ?_)
  · skip
    have kl0 : (0 : Int32).toInt = 0 := by decide
    have f1 := i_lt c1
    have hx1_1l : iv x1 (-2147483648) (-1) := iv_ltl hx1 (iv_c (x := (0 : Int32)) (k := 0) (by decide)) c1 (by decide)
    refine lv_iconst (v := (-1)) hx hb dX9_end_15 (by decide) ?_
    exact ret _ _ _ _ _ dX9_end_16 (⟨hT, iv_w (iv_c (x := (-1 : Int32)) (k := (-1)) (by decide)) (by decide)⟩) hS
  · skip
    have kl0 : (0 : Int32).toInt = 0 := by decide
    have f1 := i_nlt c1
    have hx1_1r : iv x1 0 2147483647 := iv_ler (iv_c (x := (0 : Int32)) (k := 0) (by decide)) hx1 (Int32.not_lt.mp c1) (by decide)
    refine lv_iload_n hx hb dX9_end_4 rfl (lv_at hl 1 rfl) ?_
    refine lv_aload_n hx hb dX9_end_5 rfl (lv_at hl 0 rfl) ?_
    refine ti_getr hx hb hts inlX9 hown hK hT ha0 rfl rfl rfl 0 (by decide) (hts _ kw_16) (fun _ h9 => h9) rfl dX9_end_6 (fun v6 hv6 hm6 => ?_)
    refine ti_geti hx hb hts inlX6 hown hK hT hv6 rfl rfl rfl 1 (by decide) (hts _ kw_162) (fun _ h9 => h9) rfl dX9_end_9 (fun v9 hv9 hm9 => ?_)
    refine lv_icmp_le (tgt := 17) hx hb dX9_end_12 (by decide) (fun c12 => ?_) (fun c12 => ?_)
    · skip
      have f12 := i_le c12
      have hx1_12l : iv x1 0 1600 := iv_lel hx1_1r hv9 c12 (by decide)
      refine lv_aload_n hx hb dX9_end_17 rfl (lv_at hl 0 rfl) ?_
      refine ti_getE (ci := 9) (v := .ref v6) hx hb hts inlX9 hown hK hm6 rfl (by decide) (hts _ kw_16) (fun _ h9 => h9) dX9_end_18 ?_
      refine lv_iload_n hx hb dX9_end_21 rfl (lv_at hl 1 rfl) ?_
      refine ti_put (ty := .int) hx hb hts inlX6 tyX6 tyX6_ok nmX6 hown hK hT hS hv6 rfl rfl rfl rfl 1 (by decide) (hts _ kw_162) (fun _ h9 => h9) rfl rfl (by decide +kernel) rfl rfl ⟨x1, rfl, iv_w hx1_12l (by decide)⟩ (fun _ _ => trivial) dX9_end_22 (fun H locs hT hS oq22 he22 hk22 => ?_)
      refine lv_iload_n hx hb dX9_end_25 rfl (lv_at hl 1 rfl) ?_
      exact ret _ _ _ _ _ dX9_end_26 (⟨hT, iv_w hx1_12l (by decide)⟩) hS
    · skip
      have f12 := i_nle c12
      have hx1_12r : iv x1 1 2147483647 := iv_ltr hv9 hx1_1r (Int32.not_le.mp c12) (by decide)
      refine lv_iconst (v := (-1)) hx hb dX9_end_15 (by decide) ?_
      exact ret _ _ _ _ _ dX9_end_16 (⟨hT, iv_w (iv_c (x := (-1 : Int32)) (k := (-1)) (by decide)) (by decide)⟩) hS
set_option maxHeartbeats 4000000 in
set_option maxRecDepth 100000 in
theorem t_X9_fault (l : Launch) {D : va_G} {c0 : Nat → ClassId} {Y : Nat → Option Nat} {ν : Nat → Nat} {H : Heap} (hT : TI D vwCl (tysOf c0) (RTg ν) Y H) {a0 : Nat} (ha0 : Y a0 = some 9) {x1 : Int32} (hx1 : iv x1 (-2147483648) 2147483647) : Met l yX9_fault (wz yX9_fault cX9_fault 2 (some .int)) { frames := 0, cells := 0, slots := 0, locals := 0 } (TP D vwCl (tysOf c0) H [.ref a0, .int x1]) (TQi (fun x H' => H' = H) Y []) 0 0 (pW Y []) := by
  refine Met.ofW (cc := cX9_fault) (maxL := 2) (ret := (some .int)) (by decide) rfl ?_
  intro p e s m args below meth c s₁ B hml hv
  obtain ⟨rfl, rfl, hK⟩ := hv
  have hx := B.exec
  have hb := B.bytes
  have hr := B.returns
  have hts : ∀ w ∈ wq, w.before _ s = true := fun w h => atoms_spec (ws := wz yX9_fault cX9_fault 2 (some .int)) B.pre w (List.mem_cons_of_mem _ h)
  have hown : s.vm.findClass RX9 = some m.cls := findClass_of_methodNamed B.named
  have hlocks := B.notSynchronized
  obtain ⟨R, hR⟩ : ∃ R : Room, R = ({ frames := 0, cells := 0, slots := 0, locals := 0 } : Room) := ⟨_, rfl⟩
  rw [show (headSpec (wz yX9_fault cX9_fault 2 (some .int)) { frames := 0, cells := 0, slots := 0, locals := 0 }).room = R from hR.symm]
  refine ti_mi hx hb hr hlocks (fun Q ret => ?_)
  have hl := lv_entry [.ref a0, .int x1] (n := 2) (Nat.le_of_ble_eq_true rfl)
  rw [lg_entry_eq]
  generalize (lg_sl [.ref a0, .int x1] ++ List.replicate (2 - (lg_sl [.ref a0, .int x1]).length) Slot.unset).toArray = ls at hl ⊢
  have hl : lv_has ls 2 [(0, .ref a0), (1, .int x1)] := hl
  have hS : va_S (pW Y []) s.heap s.heap [] := va_S.rf
  refine lv_iload_n hx hb dX9_fault_0 rfl (lv_at hl 1 rfl) ?_
  refine lv_if_ne (tgt := 12) hx hb dX9_fault_1 (by decide) (fun c1 => ?_) (fun c1 => ?_)
  · skip
    have kl0 : (0 : Int32).toInt = 0 := by decide
    have f1 := i_ne c1
    refine lv_iload_n hx hb dX9_fault_12 rfl (lv_at hl 1 rfl) ?_
    refine lv_iconst (v := 1) hx hb dX9_fault_13 (by decide) ?_
    refine lv_icmp_ne (tgt := 27) hx hb dX9_fault_14 (by decide) (fun c14 => ?_) (fun c14 => ?_)
    · skip
      have kl1 : (1 : Int32).toInt = 1 := by decide
      have f14 := i_ne c14
      refine lv_iconst (v := (-1)) hx hb dX9_fault_27 (by decide) ?_
      exact ret _ _ _ _ _ dX9_fault_28 (rfl) hS
    · skip
      have kl1 : (1 : Int32).toInt = 1 := by decide
      have f14 := i_eq c14
      have hx1_14l : iv x1 1 1 := iv_eql hx1 (iv_c (x := (1 : Int32)) (k := 1) (by decide)) c14 (by decide)
      refine lv_aload_n hx hb dX9_fault_17 rfl (lv_at hl 0 rfl) ?_
      refine ti_getr hx hb hts inlX9 hown hK hT ha0 rfl rfl rfl 0 (by decide) (hts _ kw_16) (fun _ h9 => h9) rfl dX9_fault_18 (fun v18 hv18 hm18 => ?_)
      refine ti_geti hx hb hts inlX6 hown hK hT hv18 rfl rfl rfl 11 (by decide) (hts _ kw_462) (fun _ h9 => h9) rfl dX9_fault_21 (fun v21 hv21 hm21 => ?_)
      refine lv_goto (tgt := 28) hx hb dX9_fault_24 (by decide) ?_
      exact ret _ _ _ _ _ dX9_fault_28 (rfl) hS
  · skip
    have kl0 : (0 : Int32).toInt = 0 := by decide
    have f1 := i_eq c1
    have hx1_1l : iv x1 0 0 := iv_eql hx1 (iv_c (x := (0 : Int32)) (k := 0) (by decide)) c1 (by decide)
    refine lv_aload_n hx hb dX9_fault_4 rfl (lv_at hl 0 rfl) ?_
    refine ti_getr hx hb hts inlX9 hown hK hT ha0 rfl rfl rfl 0 (by decide) (hts _ kw_16) (fun _ h9 => h9) rfl dX9_fault_5 (fun v5 hv5 hm5 => ?_)
    refine ti_geti hx hb hts inlX6 hown hK hT hv5 rfl rfl rfl 10 (by decide) (hts _ kw_461) (fun _ h9 => h9) rfl dX9_fault_8 (fun v8 hv8 hm8 => ?_)
    exact ret _ _ _ _ _ dX9_fault_11 (rfl) hS
set_option maxHeartbeats 4000000 in
set_option maxRecDepth 100000 in
theorem t_X9_isPerson (l : Launch) {D : va_G} {c0 : Nat → ClassId} {Y : Nat → Option Nat} {ν : Nat → Nat} {H : Heap} (hT : TI D vwCl (tysOf c0) (RTg ν) Y H) {a0 : Nat} (ha0 : Y a0 = some 9) {x1 : Int64} (hx1 : jv x1 (-9223372036854775808) 9223372036854775807) : Met l yX9_isPerson (wz yX9_isPerson cX9_isPerson 3 (some .boolean)) { frames := 0, cells := 0, slots := 0, locals := 0 } (TP D vwCl (tysOf c0) H [.ref a0, .long x1]) (TQi (fun x H' => H' = H ∧ iv x 0 1 ∧ ((x.toInt = 0 ∨ (0 ≤ x1.toInt ∧ x1.toInt ≤ 7)))) Y []) 0 0 (pW Y []) := by
  refine Met.ofW (cc := cX9_isPerson) (maxL := 3) (ret := (some .boolean)) (by decide) rfl ?_
  intro p e s m args below meth c s₁ B hml hv
  obtain ⟨rfl, rfl, hK⟩ := hv
  have hx := B.exec
  have hb := B.bytes
  have hr := B.returns
  have hts : ∀ w ∈ wq, w.before _ s = true := fun w h => atoms_spec (ws := wz yX9_isPerson cX9_isPerson 3 (some .boolean)) B.pre w (List.mem_cons_of_mem _ h)
  have hown : s.vm.findClass RX9 = some m.cls := findClass_of_methodNamed B.named
  have hlocks := B.notSynchronized
  obtain ⟨R, hR⟩ : ∃ R : Room, R = ({ frames := 0, cells := 0, slots := 0, locals := 0 } : Room) := ⟨_, rfl⟩
  rw [show (headSpec (wz yX9_isPerson cX9_isPerson 3 (some .boolean)) { frames := 0, cells := 0, slots := 0, locals := 0 }).room = R from hR.symm]
  refine ti_mz hx hb hr hlocks (fun Q ret => ?_)
  have hl := lv_entry [.ref a0, .long x1] (n := 3) (Nat.le_of_ble_eq_true rfl)
  rw [lg_entry_eq]
  generalize (lg_sl [.ref a0, .long x1] ++ List.replicate (3 - (lg_sl [.ref a0, .long x1]).length) Slot.unset).toArray = ls at hl ⊢
  have hl : lv_has ls 3 [(0, .ref a0), (1, .long x1)] := hl
  have hS : va_S (pW Y []) s.heap s.heap [] := va_S.rf
  refine lv_lload_n hx hb dX9_isPerson_0 rfl (lv_at hl 1 rfl) ?_
  refine lv_lconst (v := 0) hx hb dX9_isPerson_1 (by decide) ?_
  have kj0 : (0 : Int64).toInt = 0 := by decide
  refine W.lcmp hx hb dX9_isPerson_2 ?_
  refine lv_if_lt (tgt := 23) hx hb dX9_isPerson_3 (by decide) (fun c3 => ?_) (fun c3 => ?_)
  · skip
    have kl0 : (0 : Int32).toInt = 0 := by decide
    have f3 := jc_lt c3
    have hx1_3a : jv x1 (-9223372036854775808) (-1) := by have b0a := (hx1).1; have b0b := (hx1).2; have b1a := ((jv_c (x := (0 : Int64)) (k := 0) (by decide))).1; have b1b := ((jv_c (x := (0 : Int64)) (k := 0) (by decide))).2; exact ⟨by omega, by omega⟩
    refine lv_iconst (v := 0) hx hb dX9_isPerson_23 (by decide) ?_
    exact ret _ _ _ _ _ dX9_isPerson_24 (iv_w (iv_c (x := (0 : Int32)) (k := 0) (by decide)) (by decide)) (⟨rfl, iv_w (iv_c (x := (0 : Int32)) (k := 0) (by decide)) (by decide), by have b0a := (hx1_3a).1; have b0b := (hx1_3a).2; omega⟩) hS
  · skip
    have kl0 : (0 : Int32).toInt = 0 := by decide
    have f3 := jc_nlt c3
    have hx1_3a : jv x1 0 9223372036854775807 := by have b0a := (hx1).1; have b0b := (hx1).2; have b1a := ((jv_c (x := (0 : Int64)) (k := 0) (by decide))).1; have b1b := ((jv_c (x := (0 : Int64)) (k := 0) (by decide))).2; exact ⟨by omega, by omega⟩
    refine lv_lload_n hx hb dX9_isPerson_6 rfl (lv_at hl 1 rfl) ?_
    refine lv_aload_n hx hb dX9_isPerson_7 rfl (lv_at hl 0 rfl) ?_
    refine ti_getr hx hb hts inlX9 hown hK hT ha0 rfl rfl rfl 1 (by decide) (hts _ kw_20) (fun _ h9 => h9) rfl dX9_isPerson_8 (fun v8 hv8 hm8 => ?_)
    refine ti_geti hx hb hts inlX7 hown hK hT hv8 rfl rfl rfl 1 (by decide) (hts _ kw_480) (fun _ h9 => h9) rfl dX9_isPerson_11 (fun v11 hv11 hm11 => ?_)
    refine lv_i2l hx hb dX9_isPerson_14 rfl ?_
    refine lv_topl (fun v14 e14 => ?_)
    have hv14 : jv v14 0 8 := by rw [e14]; exact jv_i hv11
    have t14 : v14.toInt = v11.toInt := by rw [e14]; exact jv_e _
    refine W.lcmp hx hb dX9_isPerson_15 ?_
    refine lv_if_ge (tgt := 23) hx hb dX9_isPerson_16 (by decide) (fun c16 => ?_) (fun c16 => ?_)
    · skip
      have f16 := jc_ge c16
      refine lv_iconst (v := 0) hx hb dX9_isPerson_23 (by decide) ?_
      exact ret _ _ _ _ _ dX9_isPerson_24 (iv_w (iv_c (x := (0 : Int32)) (k := 0) (by decide)) (by decide)) (⟨rfl, iv_w (iv_c (x := (0 : Int32)) (k := 0) (by decide)) (by decide), by have b0a := (hx1_3a).1; have b0b := (hx1_3a).2; have b1a := (hv11).1; have b1b := (hv11).2; have b2a := (hv14).1; have b2b := (hv14).2; omega⟩) hS
    · skip
      have f16 := jc_nge c16
      have hx1_16a : jv x1 0 7 := by have b0a := (hx1_3a).1; have b0b := (hx1_3a).2; have b1a := (hv14).1; have b1b := (hv14).2; exact ⟨by omega, by omega⟩
      have hv14_16b : jv v14 1 8 := by have b0a := (hx1_16a).1; have b0b := (hx1_16a).2; have b1a := (hv14).1; have b1b := (hv14).2; exact ⟨by omega, by omega⟩
      have hv11_16b : iv v11 1 8 := by have := t14; have b0a := (hv14_16b).1; have b0b := (hv14_16b).2; have b1a := (hv11).1; have b1b := (hv11).2; exact ⟨by omega, by omega⟩
      refine lv_iconst (v := 1) hx hb dX9_isPerson_19 (by decide) ?_
      refine lv_goto (tgt := 24) hx hb dX9_isPerson_20 (by decide) ?_
      have kl1 : (1 : Int32).toInt = 1 := by decide
      exact ret _ _ _ _ _ dX9_isPerson_24 (iv_w (iv_c (x := (1 : Int32)) (k := 1) (by decide)) (by decide)) (⟨rfl, iv_w (iv_c (x := (1 : Int32)) (k := 1) (by decide)) (by decide), by have b0a := (hx1_16a).1; have b0b := (hx1_16a).2; have b1a := (hv11_16b).1; have b1b := (hv11_16b).2; have b2a := (hv14_16b).1; have b2b := (hv14_16b).2; omega⟩) hS
set_option maxHeartbeats 4000000 in
set_option maxRecDepth 100000 in
theorem t_X9_arePair (l : Launch) {D : va_G} {c0 : Nat → ClassId} {Y : Nat → Option Nat} {ν : Nat → Nat} {H : Heap} (hT : TI D vwCl (tysOf c0) (RTg ν) Y H) {a0 : Nat} (ha0 : Y a0 = some 9) {x1 : Int32} (hx1 : iv x1 (-2147483648) 2147483647) {x2 : Int32} (hx2 : iv x2 (-2147483648) 2147483647) : Met l yX9_arePair (wz yX9_arePair cX9_arePair 3 (some .boolean)) { frames := 1, cells := 0, slots := 0, locals := 22 } (TP D vwCl (tysOf c0) H [.ref a0, .int x1, .int x2]) (TQi (fun x H' => H' = H ∧ iv x 0 1 ∧ ((x.toInt = 0 ∨ (0 ≤ x1.toInt ∧ x1.toInt ≤ 7) ∧ (0 ≤ x2.toInt ∧ x2.toInt ≤ 7)))) Y []) 0 0 (pW Y []) := by
  refine Met.ofW (cc := cX9_arePair) (maxL := 3) (ret := (some .boolean)) (by decide) rfl ?_
  intro p e s m args below meth c s₁ B hml hv
  obtain ⟨rfl, rfl, hK⟩ := hv
  have hx := B.exec
  have hb := B.bytes
  have hr := B.returns
  have hts : ∀ w ∈ wq, w.before _ s = true := fun w h => atoms_spec (ws := wz yX9_arePair cX9_arePair 3 (some .boolean)) B.pre w (List.mem_cons_of_mem _ h)
  have hown : s.vm.findClass RX9 = some m.cls := findClass_of_methodNamed B.named
  have hlocks := B.notSynchronized
  obtain ⟨R, hR⟩ : ∃ R : Room, R = ({ frames := 1, cells := 0, slots := 0, locals := 22 } : Room) := ⟨_, rfl⟩
  rw [show (headSpec (wz yX9_arePair cX9_arePair 3 (some .boolean)) { frames := 1, cells := 0, slots := 0, locals := 22 }).room = R from hR.symm]
  refine ti_mz hx hb hr hlocks (fun Q ret => ?_)
  have hl := lv_entry [.ref a0, .int x1, .int x2] (n := 3) (Nat.le_of_ble_eq_true rfl)
  rw [lg_entry_eq]
  generalize (lg_sl [.ref a0, .int x1, .int x2] ++ List.replicate (3 - (lg_sl [.ref a0, .int x1, .int x2]).length) Slot.unset).toArray = ls at hl ⊢
  have hl : lv_has ls 3 [(0, .ref a0), (1, .int x1), (2, .int x2)] := hl
  have hS : va_S (pW Y []) s.heap s.heap [] := va_S.rf
  refine lv_aload_n hx hb dX9_arePair_0 rfl (lv_at hl 0 rfl) ?_
  refine lv_iload_n hx hb dX9_arePair_1 rfl (lv_at hl 1 rfl) ?_
  refine lv_i2l hx hb dX9_arePair_2 rfl ?_
  refine lv_topl (fun v2 e2 => ?_)
  have hv2 : jv v2 (-2147483648) 2147483647 := by rw [e2]; exact jv_i hx1
  have t2 : v2.toInt = x1.toInt := by rw [e2]; exact jv_e _
  refine ti_calli (va_runV (As := [.long v2]) (rest := []) ⟨hx, hb, hml, hown, hts⟩ (t_X9_isPerson l hT ha0 (jv_w hv2 (by decide))) (cwV 1 hts (good_V kw_476 kw_477 kw_478 kw_2 kw_479) rfl rfl rfl (by decide +kernel) ⟨by rw [hR]; decide, by rw [hR]; decide⟩) (ti_preV hK hT ha0 rfl rfl) rfl rfl hl.1 rfl (lv_room (Nat.le_of_ble_eq_true rfl)) dX9_arePair_3 ⟨Nat.zero_le _, Nat.zero_le _⟩) hS (pW_sub rfl) (fun v3 H1 locs hB hS _ hk3 => ?_)
  obtain ⟨hH, hv3, hp3⟩ := hB
  rw [hH] at hS ⊢
  refine lv_if_eq (tgt := 27) hx hb dX9_arePair_6 (by decide) (fun c6 => ?_) (fun c6 => ?_)
  · skip
    have kl0 : (0 : Int32).toInt = 0 := by decide
    have f6 := i_eq c6
    have hv3_6l : iv v3 0 0 := iv_eql hv3 (iv_c (x := (0 : Int32)) (k := 0) (by decide)) c6 (by decide)
    refine lv_iconst (v := 0) hx hb dX9_arePair_27 (by decide) ?_
    exact ret _ _ _ _ _ dX9_arePair_28 (iv_w (iv_c (x := (0 : Int32)) (k := 0) (by decide)) (by decide)) (⟨rfl, iv_w (iv_c (x := (0 : Int32)) (k := 0) (by decide)) (by decide), by have b0a := (hx1).1; have b0b := (hx1).2; have b1a := (hx2).1; have b1b := (hx2).2; have b2a := (hv2).1; have b2b := (hv2).2; have b3a := (hv3_6l).1; have b3b := (hv3_6l).2; omega⟩) hS
  · skip
    have kl0 : (0 : Int32).toInt = 0 := by decide
    have f6 := i_ne c6
    have hv3_6l : iv v3 1 1 := iv_nel hv3 (iv_c (x := (0 : Int32)) (k := 0) (by decide)) c6 (by decide)
    have hv2_6p : jv v2 0 7 := by have b0a := (hv2).1; have b0b := (hv2).2; exact ⟨by omega, by omega⟩
    have hx1_6p : iv x1 0 7 := by have := t2; have b0a := (hv2_6p).1; have b0b := (hv2_6p).2; have b1a := (hx1).1; have b1b := (hx1).2; exact ⟨by omega, by omega⟩
    refine lv_aload_n hx hb dX9_arePair_9 rfl (lv_at hl 0 rfl) ?_
    refine lv_iload_n hx hb dX9_arePair_10 rfl (lv_at hl 2 rfl) ?_
    refine lv_i2l hx hb dX9_arePair_11 rfl ?_
    refine lv_topl (fun v11 e11 => ?_)
    have hv11 : jv v11 (-2147483648) 2147483647 := by rw [e11]; exact jv_i hx2
    have t11 : v11.toInt = x2.toInt := by rw [e11]; exact jv_e _
    refine ti_calli (va_runV (As := [.long v11]) (rest := []) ⟨hx, hb, hml, hown, hts⟩ (t_X9_isPerson l hT ha0 (jv_w hv11 (by decide))) (cwV 1 hts (good_V kw_476 kw_477 kw_478 kw_2 kw_479) rfl rfl rfl (by decide +kernel) ⟨by rw [hR]; decide, by rw [hR]; decide⟩) (ti_preV hK hT ha0 rfl rfl) rfl rfl hl.1 rfl (lv_room (Nat.le_of_ble_eq_true rfl)) dX9_arePair_12 ⟨Nat.zero_le _, Nat.zero_le _⟩) hS (pW_sub rfl) (fun v12 H1 locs hB hS _ hk12 => ?_)
    obtain ⟨hH, hv12, hp12⟩ := hB
    rw [hH] at hS ⊢
    refine lv_if_eq (tgt := 27) hx hb dX9_arePair_15 (by decide) (fun c15 => ?_) (fun c15 => ?_)
    · skip
      have f15 := i_eq c15
      have hv12_15l : iv v12 0 0 := iv_eql hv12 (iv_c (x := (0 : Int32)) (k := 0) (by decide)) c15 (by decide)
      refine lv_iconst (v := 0) hx hb dX9_arePair_27 (by decide) ?_
      exact ret _ _ _ _ _ dX9_arePair_28 (iv_w (iv_c (x := (0 : Int32)) (k := 0) (by decide)) (by decide)) (⟨rfl, iv_w (iv_c (x := (0 : Int32)) (k := 0) (by decide)) (by decide), by have b0a := (hx1_6p).1; have b0b := (hx1_6p).2; have b1a := (hx2).1; have b1b := (hx2).2; have b2a := (hv2_6p).1; have b2b := (hv2_6p).2; have b3a := (hv3_6l).1; have b3b := (hv3_6l).2; have b4a := (hv11).1; have b4b := (hv11).2; have b5a := (hv12_15l).1; have b5b := (hv12_15l).2; omega⟩) hS
    · skip
      have f15 := i_ne c15
      have hv12_15l : iv v12 1 1 := iv_nel hv12 (iv_c (x := (0 : Int32)) (k := 0) (by decide)) c15 (by decide)
      have hv11_15p : jv v11 0 7 := by have b0a := (hv11).1; have b0b := (hv11).2; exact ⟨by omega, by omega⟩
      have hx2_15p : iv x2 0 7 := by have := t11; have b0a := (hv11_15p).1; have b0b := (hv11_15p).2; have b1a := (hx2).1; have b1b := (hx2).2; exact ⟨by omega, by omega⟩
      refine lv_iload_n hx hb dX9_arePair_18 rfl (lv_at hl 1 rfl) ?_
      refine lv_iload_n hx hb dX9_arePair_19 rfl (lv_at hl 2 rfl) ?_
      refine lv_icmp_eq (tgt := 27) hx hb dX9_arePair_20 (by decide) (fun c20 => ?_) (fun c20 => ?_)
      · skip
        have f20 := i_eq c20
        refine lv_iconst (v := 0) hx hb dX9_arePair_27 (by decide) ?_
        exact ret _ _ _ _ _ dX9_arePair_28 (iv_w (iv_c (x := (0 : Int32)) (k := 0) (by decide)) (by decide)) (⟨rfl, iv_w (iv_c (x := (0 : Int32)) (k := 0) (by decide)) (by decide), by have b0a := (hx1_6p).1; have b0b := (hx1_6p).2; have b1a := (hx2_15p).1; have b1b := (hx2_15p).2; have b2a := (hv2_6p).1; have b2b := (hv2_6p).2; have b3a := (hv3_6l).1; have b3b := (hv3_6l).2; have b4a := (hv11_15p).1; have b4b := (hv11_15p).2; have b5a := (hv12_15l).1; have b5b := (hv12_15l).2; omega⟩) hS
      · skip
        have f20 := i_ne c20
        refine lv_iconst (v := 1) hx hb dX9_arePair_23 (by decide) ?_
        refine lv_goto (tgt := 28) hx hb dX9_arePair_24 (by decide) ?_
        have kl1 : (1 : Int32).toInt = 1 := by decide
        exact ret _ _ _ _ _ dX9_arePair_28 (iv_w (iv_c (x := (1 : Int32)) (k := 1) (by decide)) (by decide)) (⟨rfl, iv_w (iv_c (x := (1 : Int32)) (k := 1) (by decide)) (by decide), by have b0a := (hx1_6p).1; have b0b := (hx1_6p).2; have b1a := (hx2_15p).1; have b1b := (hx2_15p).2; have b2a := (hv2_6p).1; have b2b := (hv2_6p).2; have b3a := (hv3_6l).1; have b3b := (hv3_6l).2; have b4a := (hv11_15p).1; have b4b := (hv11_15p).2; have b5a := (hv12_15l).1; have b5b := (hv12_15l).2; omega⟩) hS
set_option maxHeartbeats 4000000 in
set_option maxRecDepth 100000 in
theorem t_X9_areDays (l : Launch) {D : va_G} {c0 : Nat → ClassId} {Y : Nat → Option Nat} {ν : Nat → Nat} {H : Heap} (hT : TI D vwCl (tysOf c0) (RTg ν) Y H) {x0 : Int32} (hx0 : iv x0 (-2147483648) 2147483647) : Met l yX9_areDays (wz yX9_areDays cX9_areDays 1 (some .boolean)) { frames := 0, cells := 0, slots := 0, locals := 0 } (TP D vwCl (tysOf c0) H [.int x0]) (TQi (fun x H' => H' = H ∧ iv x 0 1 ∧ ((x.toInt = 0 ∨ (1 ≤ x0.toInt ∧ x0.toInt ≤ 30)))) Y []) 0 0 (pW Y []) := by
  refine Met.ofW (cc := cX9_areDays) (maxL := 1) (ret := (some .boolean)) (by decide) rfl ?_
  intro p e s m args below meth c s₁ B hml hv
  obtain ⟨rfl, rfl, hK⟩ := hv
  have hx := B.exec
  have hb := B.bytes
  have hr := B.returns
  have hts : ∀ w ∈ wq, w.before _ s = true := fun w h => atoms_spec (ws := wz yX9_areDays cX9_areDays 1 (some .boolean)) B.pre w (List.mem_cons_of_mem _ h)
  have hown : s.vm.findClass RX9 = some m.cls := findClass_of_methodNamed B.named
  have hlocks := B.notSynchronized
  obtain ⟨R, hR⟩ : ∃ R : Room, R = ({ frames := 0, cells := 0, slots := 0, locals := 0 } : Room) := ⟨_, rfl⟩
  rw [show (headSpec (wz yX9_areDays cX9_areDays 1 (some .boolean)) { frames := 0, cells := 0, slots := 0, locals := 0 }).room = R from hR.symm]
  refine ti_mz hx hb hr hlocks (fun Q ret => ?_)
  have hl := lv_entry [.int x0] (n := 1) (Nat.le_of_ble_eq_true rfl)
  rw [lg_entry_eq]
  generalize (lg_sl [.int x0] ++ List.replicate (1 - (lg_sl [.int x0]).length) Slot.unset).toArray = ls at hl ⊢
  have hl : lv_has ls 1 [(0, .int x0)] := hl
  have hS : va_S (pW Y []) s.heap s.heap [] := va_S.rf
  refine lv_iload_n hx hb dX9_areDays_0 rfl (lv_at hl 0 rfl) ?_
  refine lv_iconst (v := 1) hx hb dX9_areDays_1 (by decide) ?_
  refine lv_icmp_lt (tgt := 15) hx hb dX9_areDays_2 (by decide) (fun c2 => ?_) (fun c2 => ?_)
  · skip
    have kl1 : (1 : Int32).toInt = 1 := by decide
    have f2 := i_lt c2
    have hx0_2l : iv x0 (-2147483648) 0 := iv_ltl hx0 (iv_c (x := (1 : Int32)) (k := 1) (by decide)) c2 (by decide)
    refine lv_iconst (v := 0) hx hb dX9_areDays_15 (by decide) ?_
    have kl0 : (0 : Int32).toInt = 0 := by decide
    exact ret _ _ _ _ _ dX9_areDays_16 (iv_w (iv_c (x := (0 : Int32)) (k := 0) (by decide)) (by decide)) (⟨rfl, iv_w (iv_c (x := (0 : Int32)) (k := 0) (by decide)) (by decide), by have b0a := (hx0_2l).1; have b0b := (hx0_2l).2; omega⟩) hS
  · skip
    have kl1 : (1 : Int32).toInt = 1 := by decide
    have f2 := i_nlt c2
    have hx0_2r : iv x0 1 2147483647 := iv_ler (iv_c (x := (1 : Int32)) (k := 1) (by decide)) hx0 (Int32.not_lt.mp c2) (by decide)
    refine lv_iload_n hx hb dX9_areDays_5 rfl (lv_at hl 0 rfl) ?_
    refine lv_bipush (v := 30) hx hb dX9_areDays_6 (by decide) ?_
    refine lv_icmp_gt (tgt := 15) hx hb dX9_areDays_8 (by decide) (fun c8 => ?_) (fun c8 => ?_)
    · skip
      have kl30 : (30 : Int32).toInt = 30 := by decide
      have f8 := i_lt c8
      have hx0_8r : iv x0 31 2147483647 := iv_ltr (iv_c (x := (30 : Int32)) (k := 30) (by decide)) hx0_2r c8 (by decide)
      refine lv_iconst (v := 0) hx hb dX9_areDays_15 (by decide) ?_
      have kl0 : (0 : Int32).toInt = 0 := by decide
      exact ret _ _ _ _ _ dX9_areDays_16 (iv_w (iv_c (x := (0 : Int32)) (k := 0) (by decide)) (by decide)) (⟨rfl, iv_w (iv_c (x := (0 : Int32)) (k := 0) (by decide)) (by decide), by have b0a := (hx0_8r).1; have b0b := (hx0_8r).2; omega⟩) hS
    · skip
      have kl30 : (30 : Int32).toInt = 30 := by decide
      have f8 := i_nlt c8
      have hx0_8l : iv x0 1 30 := iv_lel hx0_2r (iv_c (x := (30 : Int32)) (k := 30) (by decide)) (Int32.not_lt.mp c8) (by decide)
      refine lv_iconst (v := 1) hx hb dX9_areDays_11 (by decide) ?_
      refine lv_goto (tgt := 16) hx hb dX9_areDays_12 (by decide) ?_
      exact ret _ _ _ _ _ dX9_areDays_16 (iv_w (iv_c (x := (1 : Int32)) (k := 1) (by decide)) (by decide)) (⟨rfl, iv_w (iv_c (x := (1 : Int32)) (k := 1) (by decide)) (by decide), by have b0a := (hx0_8l).1; have b0b := (hx0_8l).2; omega⟩) hS
set_option maxHeartbeats 4000000 in
set_option maxRecDepth 100000 in
theorem t_X9_canPass (l : Launch) {D : va_G} {c0 : Nat → ClassId} {Y : Nat → Option Nat} {ν : Nat → Nat} {H : Heap} (hT : TI D vwCl (tysOf c0) (RTg ν) Y H) {a0 : Nat} (ha0 : Y a0 = some 9) {x1 : Int32} (hx1 : iv x1 (-2147483648) 2147483647) : Met l yX9_canPass (wz yX9_canPass cX9_canPass 2 (some .boolean)) { frames := 1, cells := 0, slots := 0, locals := 20 } (TP D vwCl (tysOf c0) H [.ref a0, .int x1]) (TQi (fun x H' => H' = H ∧ iv x 0 1 ∧ ((x.toInt = 0 ∨ (1 ≤ x1.toInt ∧ x1.toInt ≤ 30)))) Y []) 0 0 (pW Y []) := by
  refine Met.ofW (cc := cX9_canPass) (maxL := 2) (ret := (some .boolean)) (by decide) rfl ?_
  intro p e s m args below meth c s₁ B hml hv
  obtain ⟨rfl, rfl, hK⟩ := hv
  have hx := B.exec
  have hb := B.bytes
  have hr := B.returns
  have hts : ∀ w ∈ wq, w.before _ s = true := fun w h => atoms_spec (ws := wz yX9_canPass cX9_canPass 2 (some .boolean)) B.pre w (List.mem_cons_of_mem _ h)
  have hown : s.vm.findClass RX9 = some m.cls := findClass_of_methodNamed B.named
  have hlocks := B.notSynchronized
  obtain ⟨R, hR⟩ : ∃ R : Room, R = ({ frames := 1, cells := 0, slots := 0, locals := 20 } : Room) := ⟨_, rfl⟩
  rw [show (headSpec (wz yX9_canPass cX9_canPass 2 (some .boolean)) { frames := 1, cells := 0, slots := 0, locals := 20 }).room = R from hR.symm]
  refine ti_mz hx hb hr hlocks (fun Q ret => ?_)
  have hl := lv_entry [.ref a0, .int x1] (n := 2) (Nat.le_of_ble_eq_true rfl)
  rw [lg_entry_eq]
  generalize (lg_sl [.ref a0, .int x1] ++ List.replicate (2 - (lg_sl [.ref a0, .int x1]).length) Slot.unset).toArray = ls at hl ⊢
  have hl : lv_has ls 2 [(0, .ref a0), (1, .int x1)] := hl
  have hS : va_S (pW Y []) s.heap s.heap [] := va_S.rf
  refine lv_iload_n hx hb dX9_canPass_0 rfl (lv_at hl 1 rfl) ?_
  refine ti_calli (va_runS (As := [.int x1]) (rest := []) ⟨hx, hb, hml, hown, hts⟩ (t_X9_areDays l hT (iv_w hx1 (by decide))) (cwS 1 hts (good_S kw_837 kw_838 kw_2 kw_839) rfl rfl rfl (by decide +kernel) ⟨by rw [hR]; decide, by rw [hR]; decide⟩) (ti_preS hK) rfl rfl hl.1 rfl (lv_room (Nat.le_of_ble_eq_true rfl)) dX9_canPass_1 ⟨Nat.zero_le _, Nat.zero_le _⟩) hS (pW_sub rfl) (fun v1 H1 locs hB hS _ hk1 => ?_)
  obtain ⟨hH, hv1, hp1⟩ := hB
  rw [hH] at hS ⊢
  refine lv_if_eq (tgt := 21) hx hb dX9_canPass_4 (by decide) (fun c4 => ?_) (fun c4 => ?_)
  · skip
    have kl0 : (0 : Int32).toInt = 0 := by decide
    have f4 := i_eq c4
    have hv1_4l : iv v1 0 0 := iv_eql hv1 (iv_c (x := (0 : Int32)) (k := 0) (by decide)) c4 (by decide)
    refine lv_iconst (v := 0) hx hb dX9_canPass_21 (by decide) ?_
    exact ret _ _ _ _ _ dX9_canPass_22 (iv_w (iv_c (x := (0 : Int32)) (k := 0) (by decide)) (by decide)) (⟨rfl, iv_w (iv_c (x := (0 : Int32)) (k := 0) (by decide)) (by decide), by have b0a := (hx1).1; have b0b := (hx1).2; have b1a := (hv1_4l).1; have b1b := (hv1_4l).2; omega⟩) hS
  · skip
    have kl0 : (0 : Int32).toInt = 0 := by decide
    have f4 := i_ne c4
    have hv1_4l : iv v1 1 1 := iv_nel hv1 (iv_c (x := (0 : Int32)) (k := 0) (by decide)) c4 (by decide)
    have hx1_4p : iv x1 1 30 := by have b0a := (hx1).1; have b0b := (hx1).2; exact ⟨by omega, by omega⟩
    refine lv_aload_n hx hb dX9_canPass_7 rfl (lv_at hl 0 rfl) ?_
    refine ti_getr hx hb hts inlX9 hown hK hT ha0 rfl rfl rfl 1 (by decide) (hts _ kw_20) (fun _ h9 => h9) rfl dX9_canPass_8 (fun v8 hv8 hm8 => ?_)
    refine ti_geti hx hb hts inlX7 hown hK hT hv8 rfl rfl rfl 1 (by decide) (hts _ kw_480) (fun _ h9 => h9) rfl dX9_canPass_11 (fun v11 hv11 hm11 => ?_)
    refine lv_if_le (tgt := 21) hx hb dX9_canPass_14 (by decide) (fun c14 => ?_) (fun c14 => ?_)
    · skip
      have f14 := i_le c14
      have hv11_14l : iv v11 0 0 := iv_lel hv11 (iv_c (x := (0 : Int32)) (k := 0) (by decide)) c14 (by decide)
      refine lv_iconst (v := 0) hx hb dX9_canPass_21 (by decide) ?_
      exact ret _ _ _ _ _ dX9_canPass_22 (iv_w (iv_c (x := (0 : Int32)) (k := 0) (by decide)) (by decide)) (⟨rfl, iv_w (iv_c (x := (0 : Int32)) (k := 0) (by decide)) (by decide), by have b0a := (hx1_4p).1; have b0b := (hx1_4p).2; have b1a := (hv1_4l).1; have b1b := (hv1_4l).2; have b2a := (hv11_14l).1; have b2b := (hv11_14l).2; omega⟩) hS
    · skip
      have f14 := i_nle c14
      have hv11_14r : iv v11 1 8 := iv_ltr (iv_c (x := (0 : Int32)) (k := 0) (by decide)) hv11 (Int32.not_le.mp c14) (by decide)
      refine lv_iconst (v := 1) hx hb dX9_canPass_17 (by decide) ?_
      refine lv_goto (tgt := 22) hx hb dX9_canPass_18 (by decide) ?_
      have kl1 : (1 : Int32).toInt = 1 := by decide
      exact ret _ _ _ _ _ dX9_canPass_22 (iv_w (iv_c (x := (1 : Int32)) (k := 1) (by decide)) (by decide)) (⟨rfl, iv_w (iv_c (x := (1 : Int32)) (k := 1) (by decide)) (by decide), by have b0a := (hx1_4p).1; have b0b := (hx1_4p).2; have b1a := (hv1_4l).1; have b1b := (hv1_4l).2; have b2a := (hv11_14r).1; have b2b := (hv11_14r).2; omega⟩) hS
set_option maxHeartbeats 4000000 in
set_option maxRecDepth 100000 in
theorem t_X9_startThought (l : Launch) {D : va_G} {c0 : Nat → ClassId} {Y : Nat → Option Nat} {ν : Nat → Nat} {H : Heap} (hT : TI D vwCl (tysOf c0) (RTg ν) Y H) {a0 : Nat} (ha0 : Y a0 = some 9) : Met l yX9_startThought (wz yX9_startThought cX9_startThought 1 (some (.object "SixStroke$Town"))) { frames := 3, cells := 0, slots := 0, locals := 103 } (TP D vwCl (tysOf c0) H [.ref a0]) (TQr (fun x H' => TI D vwCl (tysOf c0) (RTg ν) Y H' ∧ Y x = some 7) Y [0, 1, 3, 7, 20, 22, 28]) 0 0 (pW Y [0, 1, 3, 7, 20, 22, 28]) := by
  refine Met.ofW (cc := cX9_startThought) (maxL := 1) (ret := (some (.object "SixStroke$Town"))) (by decide) rfl ?_
  intro p e s m args below meth c s₁ B hml hv
  obtain ⟨rfl, rfl, hK⟩ := hv
  have hx := B.exec
  have hb := B.bytes
  have hr := B.returns
  have hts : ∀ w ∈ wq, w.before _ s = true := fun w h => atoms_spec (ws := wz yX9_startThought cX9_startThought 1 (some (.object "SixStroke$Town"))) B.pre w (List.mem_cons_of_mem _ h)
  have hown : s.vm.findClass RX9 = some m.cls := findClass_of_methodNamed B.named
  have hlocks := B.notSynchronized
  obtain ⟨R, hR⟩ : ∃ R : Room, R = ({ frames := 3, cells := 0, slots := 0, locals := 103 } : Room) := ⟨_, rfl⟩
  rw [show (headSpec (wz yX9_startThought cX9_startThought 1 (some (.object "SixStroke$Town"))) { frames := 3, cells := 0, slots := 0, locals := 103 }).room = R from hR.symm]
  refine ti_mr hx hb hr hlocks (fun Q ret => ?_)
  have hl := lv_entry [.ref a0] (n := 1) (Nat.le_of_ble_eq_true rfl)
  rw [lg_entry_eq]
  generalize (lg_sl [.ref a0] ++ List.replicate (1 - (lg_sl [.ref a0]).length) Slot.unset).toArray = ls at hl ⊢
  have hl : lv_has ls 1 [(0, .ref a0)] := hl
  refine ti_gen (P := fun H => TI D vwCl (tysOf c0) (RTg ν) Y H) (Y := Y) (ws := [0, 1, 3, 7, 20, 22, 28]) hT (fun H locs hT hS => ?_)
  refine lv_aload_n hx hb dX9_startThought_0 rfl (lv_at hl 0 rfl) ?_
  refine ti_getr hx hb hts inlX9 hown hK hT ha0 rfl rfl rfl 2 (by decide) (hts _ kw_21) (fun _ h9 => h9) rfl dX9_startThought_1 (fun v1 hv1 hm1 => ?_)
  refine lv_iconst (v := 0) hx hb dX9_startThought_4 (by decide) ?_
  refine ti_aald hx hb (aT4 hK) hT hv1 rfl (iv_c (x := (0 : Int32)) (k := 0) (by decide)) (by decide) (fun _ _ _ => rfl) dX9_startThought_5 (fun v5 hv5 => ?_)
  refine lv_aload_n hx hb dX9_startThought_6 rfl (lv_at hl 0 rfl) ?_
  refine ti_getr hx hb hts inlX9 hown hK hT ha0 rfl rfl rfl 1 (by decide) (hts _ kw_20) (fun _ h9 => h9) rfl dX9_startThought_7 (fun v7 hv7 hm7 => ?_)
  refine ti_callv (va_runV (As := [.ref v7]) (rest := []) ⟨hx, hb, hml, hown, hts⟩ (t_X7_copyFrom l hT hv5 hv7) (cwV 1 hts (good_V kw_342 kw_343 kw_344 kw_19 kw_345) rfl rfl rfl (by decide +kernel) ⟨by rw [hR]; decide, by rw [hR]; decide⟩) (ti_preV hK hT hv5 rfl rfl) rfl rfl hl.1 rfl (lv_room (Nat.le_of_ble_eq_true rfl)) dX9_startThought_10 ⟨Nat.zero_le _, Nat.zero_le _⟩) hS (pW_sub rfl) (fun H locs hB hS _ hk10 => ?_)
  have hT := hB
  refine lv_aload_n hx hb dX9_startThought_13 rfl (lv_at hl 0 rfl) ?_
  refine ti_getE (ci := 9) (v := .ref v1) hx hb hts inlX9 hown hK (hm1.call hk10 (pW_not ha0 rfl)) rfl (by decide) (hts _ kw_21) (fun _ h9 => h9) dX9_startThought_14 ?_
  refine lv_iconst (v := 0) hx hb dX9_startThought_17 (by decide) ?_
  refine ti_aald hx hb (aT4 hK) hT hv1 rfl (iv_c (x := (0 : Int32)) (k := 0) (by decide)) (by decide) (fun _ _ _ => rfl) dX9_startThought_18 (fun v18 hv18 => ?_)
  exact ret _ _ _ _ _ dX9_startThought_19 (⟨hT, hv18⟩) hS
set_option maxHeartbeats 4000000 in
set_option maxRecDepth 100000 in
theorem t_X9_isWay (l : Launch) {D : va_G} {c0 : Nat → ClassId} {Y : Nat → Option Nat} {ν : Nat → Nat} {H : Heap} (hT : TI D vwCl (tysOf c0) (RTg ν) Y H) {x0 : Int64} (hx0 : jv x0 (-9223372036854775808) 9223372036854775807) : Met l yX9_isWay (wz yX9_isWay cX9_isWay 2 (some .boolean)) { frames := 0, cells := 0, slots := 0, locals := 0 } (TP D vwCl (tysOf c0) H [.long x0]) (TQi (fun x H' => H' = H ∧ iv x 0 1 ∧ ((x.toInt = 0 ∨ (0 ≤ x0.toInt ∧ x0.toInt ≤ 5)))) Y []) 0 0 (pW Y []) := by
  refine Met.ofW (cc := cX9_isWay) (maxL := 2) (ret := (some .boolean)) (by decide) rfl ?_
  intro p e s m args below meth c s₁ B hml hv
  obtain ⟨rfl, rfl, hK⟩ := hv
  have hx := B.exec
  have hb := B.bytes
  have hr := B.returns
  have hts : ∀ w ∈ wq, w.before _ s = true := fun w h => atoms_spec (ws := wz yX9_isWay cX9_isWay 2 (some .boolean)) B.pre w (List.mem_cons_of_mem _ h)
  have hown : s.vm.findClass RX9 = some m.cls := findClass_of_methodNamed B.named
  have hlocks := B.notSynchronized
  obtain ⟨R, hR⟩ : ∃ R : Room, R = ({ frames := 0, cells := 0, slots := 0, locals := 0 } : Room) := ⟨_, rfl⟩
  rw [show (headSpec (wz yX9_isWay cX9_isWay 2 (some .boolean)) { frames := 0, cells := 0, slots := 0, locals := 0 }).room = R from hR.symm]
  refine ti_mz hx hb hr hlocks (fun Q ret => ?_)
  have hl := lv_entry [.long x0] (n := 2) (Nat.le_of_ble_eq_true rfl)
  rw [lg_entry_eq]
  generalize (lg_sl [.long x0] ++ List.replicate (2 - (lg_sl [.long x0]).length) Slot.unset).toArray = ls at hl ⊢
  have hl : lv_has ls 2 [(0, .long x0)] := hl
  have hS : va_S (pW Y []) s.heap s.heap [] := va_S.rf
  refine lv_lload_n hx hb dX9_isWay_0 rfl (lv_at hl 0 rfl) ?_
  refine lv_lconst (v := 0) hx hb dX9_isWay_1 (by decide) ?_
  have kj0 : (0 : Int64).toInt = 0 := by decide
  refine W.lcmp hx hb dX9_isWay_2 ?_
  refine lv_if_lt (tgt := 18) hx hb dX9_isWay_3 (by decide) (fun c3 => ?_) (fun c3 => ?_)
  · skip
    have kl0 : (0 : Int32).toInt = 0 := by decide
    have f3 := jc_lt c3
    have hx0_3a : jv x0 (-9223372036854775808) (-1) := by have b0a := (hx0).1; have b0b := (hx0).2; have b1a := ((jv_c (x := (0 : Int64)) (k := 0) (by decide))).1; have b1b := ((jv_c (x := (0 : Int64)) (k := 0) (by decide))).2; exact ⟨by omega, by omega⟩
    refine lv_iconst (v := 0) hx hb dX9_isWay_18 (by decide) ?_
    exact ret _ _ _ _ _ dX9_isWay_19 (iv_w (iv_c (x := (0 : Int32)) (k := 0) (by decide)) (by decide)) (⟨rfl, iv_w (iv_c (x := (0 : Int32)) (k := 0) (by decide)) (by decide), by have b0a := (hx0_3a).1; have b0b := (hx0_3a).2; omega⟩) hS
  · skip
    have kl0 : (0 : Int32).toInt = 0 := by decide
    have f3 := jc_nlt c3
    have hx0_3a : jv x0 0 9223372036854775807 := by have b0a := (hx0).1; have b0b := (hx0).2; have b1a := ((jv_c (x := (0 : Int64)) (k := 0) (by decide))).1; have b1b := ((jv_c (x := (0 : Int64)) (k := 0) (by decide))).2; exact ⟨by omega, by omega⟩
    refine lv_lload_n hx hb dX9_isWay_6 rfl (lv_at hl 0 rfl) ?_
    refine lv_ldc2 (v := 6) hx hb hown (hts _ kw_1114) dX9_isWay_7 ?_
    have kj6 : (6 : Int64).toInt = 6 := by decide
    refine W.lcmp hx hb dX9_isWay_10 ?_
    refine lv_if_ge (tgt := 18) hx hb dX9_isWay_11 (by decide) (fun c11 => ?_) (fun c11 => ?_)
    · skip
      have f11 := jc_ge c11
      have hx0_11a : jv x0 6 9223372036854775807 := by have b0a := (hx0_3a).1; have b0b := (hx0_3a).2; have b1a := ((jv_c (x := (6 : Int64)) (k := 6) (by decide))).1; have b1b := ((jv_c (x := (6 : Int64)) (k := 6) (by decide))).2; exact ⟨by omega, by omega⟩
      refine lv_iconst (v := 0) hx hb dX9_isWay_18 (by decide) ?_
      exact ret _ _ _ _ _ dX9_isWay_19 (iv_w (iv_c (x := (0 : Int32)) (k := 0) (by decide)) (by decide)) (⟨rfl, iv_w (iv_c (x := (0 : Int32)) (k := 0) (by decide)) (by decide), by have b0a := (hx0_11a).1; have b0b := (hx0_11a).2; omega⟩) hS
    · skip
      have f11 := jc_nge c11
      have hx0_11a : jv x0 0 5 := by have b0a := (hx0_3a).1; have b0b := (hx0_3a).2; have b1a := ((jv_c (x := (6 : Int64)) (k := 6) (by decide))).1; have b1b := ((jv_c (x := (6 : Int64)) (k := 6) (by decide))).2; exact ⟨by omega, by omega⟩
      refine lv_iconst (v := 1) hx hb dX9_isWay_14 (by decide) ?_
      refine lv_goto (tgt := 19) hx hb dX9_isWay_15 (by decide) ?_
      have kl1 : (1 : Int32).toInt = 1 := by decide
      exact ret _ _ _ _ _ dX9_isWay_19 (iv_w (iv_c (x := (1 : Int32)) (k := 1) (by decide)) (by decide)) (⟨rfl, iv_w (iv_c (x := (1 : Int32)) (k := 1) (by decide)) (by decide), by have b0a := (hx0_11a).1; have b0b := (hx0_11a).2; omega⟩) hS
set_option maxHeartbeats 4000000 in
set_option maxRecDepth 100000 in
theorem t_X9_person (l : Launch) {D : va_G} {c0 : Nat → ClassId} {Y : Nat → Option Nat} {ν : Nat → Nat} {H : Heap} (hT : TI D vwCl (tysOf c0) (RTg ν) Y H) {a0 : Nat} (ha0 : Y a0 = some 9) {x1 : Int32} (hx1 : iv x1 (-2147483648) 2147483647) {x2 : Int32} (hx2 : iv x2 (-2147483648) 2147483647) : Met l yX9_person (wz yX9_person cX9_person 4 (some .int)) { frames := 1, cells := 0, slots := 0, locals := 22 } (TP D vwCl (tysOf c0) H [.ref a0, .int x1, .int x2]) (TQi (fun x H' => H' = H) Y []) 0 0 (pW Y []) := by
  refine Met.ofW (cc := cX9_person) (maxL := 4) (ret := (some .int)) (by decide) rfl ?_
  intro p e s m args below meth c s₁ B hml hv
  obtain ⟨rfl, rfl, hK⟩ := hv
  have hx := B.exec
  have hb := B.bytes
  have hr := B.returns
  have hts : ∀ w ∈ wq, w.before _ s = true := fun w h => atoms_spec (ws := wz yX9_person cX9_person 4 (some .int)) B.pre w (List.mem_cons_of_mem _ h)
  have hown : s.vm.findClass RX9 = some m.cls := findClass_of_methodNamed B.named
  have hlocks := B.notSynchronized
  obtain ⟨R, hR⟩ : ∃ R : Room, R = ({ frames := 1, cells := 0, slots := 0, locals := 22 } : Room) := ⟨_, rfl⟩
  rw [show (headSpec (wz yX9_person cX9_person 4 (some .int)) { frames := 1, cells := 0, slots := 0, locals := 22 }).room = R from hR.symm]
  refine ti_mi hx hb hr hlocks (fun Q ret => ?_)
  have hl := lv_entry [.ref a0, .int x1, .int x2] (n := 4) (Nat.le_of_ble_eq_true rfl)
  rw [lg_entry_eq]
  generalize (lg_sl [.ref a0, .int x1, .int x2] ++ List.replicate (4 - (lg_sl [.ref a0, .int x1, .int x2]).length) Slot.unset).toArray = ls at hl ⊢
  have hl : lv_has ls 4 [(0, .ref a0), (1, .int x1), (2, .int x2)] := hl
  have hS : va_S (pW Y []) s.heap s.heap [] := va_S.rf
  refine lv_aload_n hx hb dX9_person_0 rfl (lv_at hl 0 rfl) ?_
  refine lv_iload_n hx hb dX9_person_1 rfl (lv_at hl 1 rfl) ?_
  refine lv_i2l hx hb dX9_person_2 rfl ?_
  refine lv_topl (fun v2 e2 => ?_)
  have hv2 : jv v2 (-2147483648) 2147483647 := by rw [e2]; exact jv_i hx1
  have t2 : v2.toInt = x1.toInt := by rw [e2]; exact jv_e _
  refine ti_calli (va_runV (As := [.long v2]) (rest := []) ⟨hx, hb, hml, hown, hts⟩ (t_X9_isPerson l hT ha0 (jv_w hv2 (by decide))) (cwV 1 hts (good_V kw_476 kw_477 kw_478 kw_2 kw_479) rfl rfl rfl (by decide +kernel) ⟨by rw [hR]; decide, by rw [hR]; decide⟩) (ti_preV hK hT ha0 rfl rfl) rfl rfl hl.1 rfl (lv_room (Nat.le_of_ble_eq_true rfl)) dX9_person_3 ⟨Nat.zero_le _, Nat.zero_le _⟩) hS (pW_sub rfl) (fun v3 H1 locs hB hS _ hk3 => ?_)
  obtain ⟨hH, hv3, hp3⟩ := hB
  rw [hH] at hS ⊢
  refine lv_if_ne (tgt := 12) hx hb dX9_person_6 (by decide) (fun c6 => ?_) (fun c6 => ?_)
  · skip
    have kl0 : (0 : Int32).toInt = 0 := by decide
    have f6 := i_ne c6
    have hv3_6l : iv v3 1 1 := iv_nel hv3 (iv_c (x := (0 : Int32)) (k := 0) (by decide)) c6 (by decide)
    have hv2_6p : jv v2 0 7 := by have b0a := (hv2).1; have b0b := (hv2).2; exact ⟨by omega, by omega⟩
    have hx1_6p : iv x1 0 7 := by have := t2; have b0a := (hv2_6p).1; have b0b := (hv2_6p).2; have b1a := (hx1).1; have b1b := (hx1).2; exact ⟨by omega, by omega⟩
    refine lv_aload_n hx hb dX9_person_12 rfl (lv_at hl 0 rfl) ?_
    refine ti_getr hx hb hts inlX9 hown hK hT ha0 rfl rfl rfl 1 (by decide) (hts _ kw_20) (fun _ h9 => h9) rfl dX9_person_13 (fun v13 hv13 hm13 => ?_)
    refine ti_getr hx hb hts inlX7 hown hK hT hv13 rfl rfl rfl 8 (by decide) (hts _ kw_471) (fun _ h9 => h9) rfl dX9_person_16 (fun v16 hv16 hm16 => ?_)
    refine lv_iload_n hx hb dX9_person_19 rfl (lv_at hl 1 rfl) ?_
    refine ti_aald hx hb (aT6 hK) hT hv16 rfl hx1_6p (by decide) (fun _ _ _ => rfl) dX9_person_20 (fun v20 hv20 => ?_)
    refine lv_astore_n (lv' := [(3, .ref v20), (0, .ref a0), (1, .int x1), (2, .int x2)]) hx hb dX9_person_21 rfl hl (by decide) rfl (fun ls hl => ?_)
    refine lv_iload_n hx hb dX9_person_22 rfl (lv_at hl 3 rfl) ?_
    by_cases c23_0 : x2.toInt = 0
    · skip
      refine lv_tableIn (off := 29) (tgt := 52) hx hb dX9_person_23 (by omega) (by omega) (by rw [c23_0]; rfl) (by decide) ?_
      have hx2_23 : iv x2 0 0 := iv_c c23_0
      refine lv_aload_n hx hb dX9_person_52 rfl (lv_at hl 0 rfl) ?_
      refine ti_geti hx hb hts inlX3 hown hK hT hv20 rfl rfl rfl 0 (by decide) (hts _ kw_472) (fun _ h9 => h9) rfl dX9_person_53 (fun v53 hv53 hm53 => ?_)
      exact ret _ _ _ _ _ dX9_person_56 (rfl) hS
    by_cases c23_1 : x2.toInt = 1
    · skip
      refine lv_tableIn (off := 34) (tgt := 57) hx hb dX9_person_23 (by omega) (by omega) (by rw [c23_1]; rfl) (by decide) ?_
      have hx2_23 : iv x2 1 1 := iv_c c23_1
      refine lv_aload_n hx hb dX9_person_57 rfl (lv_at hl 0 rfl) ?_
      refine ti_geti hx hb hts inlX3 hown hK hT hv20 rfl rfl rfl 1 (by decide) (hts _ kw_473) (fun _ h9 => h9) rfl dX9_person_58 (fun v58 hv58 hm58 => ?_)
      exact ret _ _ _ _ _ dX9_person_61 (rfl) hS
    by_cases c23_2 : x2.toInt = 2
    · skip
      refine lv_tableIn (off := 39) (tgt := 62) hx hb dX9_person_23 (by omega) (by omega) (by rw [c23_2]; rfl) (by decide) ?_
      have hx2_23 : iv x2 2 2 := iv_c c23_2
      refine lv_aload_n hx hb dX9_person_62 rfl (lv_at hl 0 rfl) ?_
      refine ti_geti hx hb hts inlX3 hown hK hT hv20 rfl rfl rfl 2 (by decide) (hts _ kw_474) (fun _ h9 => h9) rfl dX9_person_63 (fun v63 hv63 hm63 => ?_)
      exact ret _ _ _ _ _ dX9_person_66 (rfl) hS
    by_cases c23_3 : x2.toInt = 3
    · skip
      refine lv_tableIn (off := 44) (tgt := 67) hx hb dX9_person_23 (by omega) (by omega) (by rw [c23_3]; rfl) (by decide) ?_
      have hx2_23 : iv x2 3 3 := iv_c c23_3
      refine lv_aload_n hx hb dX9_person_67 rfl (lv_at hl 0 rfl) ?_
      refine ti_geti hx hb hts inlX3 hown hK hT hv20 rfl rfl rfl 4 (by decide) (hts _ kw_475) (fun _ h9 => h9) rfl dX9_person_68 (fun v68 hv68 hm68 => ?_)
      exact ret _ _ _ _ _ dX9_person_71 (rfl) hS
    refine lv_tableOut (tgt := 72) hx hb dX9_person_23 (by have b0a := (hx2).1; have b0b := (hx2).2; omega) (by decide) ?_
    refine lv_bipush (v := (-2)) hx hb dX9_person_72 (by decide) ?_
    exact ret _ _ _ _ _ dX9_person_74 (rfl) hS
  · skip
    have kl0 : (0 : Int32).toInt = 0 := by decide
    have f6 := i_eq c6
    have hv3_6l : iv v3 0 0 := iv_eql hv3 (iv_c (x := (0 : Int32)) (k := 0) (by decide)) c6 (by decide)
    refine lv_bipush (v := (-2)) hx hb dX9_person_9 (by decide) ?_
    exact ret _ _ _ _ _ dX9_person_11 (rfl) hS
set_option maxHeartbeats 4000000 in
set_option maxRecDepth 100000 in
theorem t_X9_have (l : Launch) {D : va_G} {c0 : Nat → ClassId} {Y : Nat → Option Nat} {ν : Nat → Nat} {H : Heap} (hT : TI D vwCl (tysOf c0) (RTg ν) Y H) {a0 : Nat} (ha0 : Y a0 = some 9) {x1 : Int32} (hx1 : iv x1 (-2147483648) 2147483647) {x2 : Int32} (hx2 : iv x2 (-2147483648) 2147483647) : Met l yX9_have (wz yX9_have cX9_have 4 (some .int)) { frames := 1, cells := 0, slots := 0, locals := 23 } (TP D vwCl (tysOf c0) H [.ref a0, .int x1, .int x2]) (TQi (fun x H' => TI D vwCl (tysOf c0) (RTg ν) Y H' ∧ iv x (-2147483648) 100000) Y [3]) 0 0 (pW Y [3]) := by
  refine Met.ofW (cc := cX9_have) (maxL := 4) (ret := (some .int)) (by decide) rfl ?_
  intro p e s m args below meth c s₁ B hml hv
  obtain ⟨rfl, rfl, hK⟩ := hv
  have hx := B.exec
  have hb := B.bytes
  have hr := B.returns
  have hts : ∀ w ∈ wq, w.before _ s = true := fun w h => atoms_spec (ws := wz yX9_have cX9_have 4 (some .int)) B.pre w (List.mem_cons_of_mem _ h)
  have hown : s.vm.findClass RX9 = some m.cls := findClass_of_methodNamed B.named
  have hlocks := B.notSynchronized
  obtain ⟨R, hR⟩ : ∃ R : Room, R = ({ frames := 1, cells := 0, slots := 0, locals := 23 } : Room) := ⟨_, rfl⟩
  rw [show (headSpec (wz yX9_have cX9_have 4 (some .int)) { frames := 1, cells := 0, slots := 0, locals := 23 }).room = R from hR.symm]
  refine ti_mi hx hb hr hlocks (fun Q ret => ?_)
  have hl := lv_entry [.ref a0, .int x1, .int x2] (n := 4) (Nat.le_of_ble_eq_true rfl)
  rw [lg_entry_eq]
  generalize (lg_sl [.ref a0, .int x1, .int x2] ++ List.replicate (4 - (lg_sl [.ref a0, .int x1, .int x2]).length) Slot.unset).toArray = ls at hl ⊢
  have hl : lv_has ls 4 [(0, .ref a0), (1, .int x1), (2, .int x2)] := hl
  refine ti_gen (P := fun H => TI D vwCl (tysOf c0) (RTg ν) Y H) (Y := Y) (ws := [3]) hT (fun H locs hT hS => ?_)
  refine lv_aload_n hx hb dX9_have_0 rfl (lv_at hl 0 rfl) ?_
  refine lv_iload_n hx hb dX9_have_1 rfl (lv_at hl 1 rfl) ?_
  refine lv_i2l hx hb dX9_have_2 rfl ?_
  refine lv_topl (fun v2 e2 => ?_)
  have hv2 : jv v2 (-2147483648) 2147483647 := by rw [e2]; exact jv_i hx1
  have t2 : v2.toInt = x1.toInt := by rw [e2]; exact jv_e _
  refine ti_calli (va_runV (As := [.long v2]) (rest := []) ⟨hx, hb, hml, hown, hts⟩ (t_X9_isPerson l hT ha0 (jv_w hv2 (by decide))) (cwV 1 hts (good_V kw_476 kw_477 kw_478 kw_2 kw_479) rfl rfl rfl (by decide +kernel) ⟨by rw [hR]; decide, by rw [hR]; decide⟩) (ti_preV hK hT ha0 rfl rfl) rfl rfl hl.1 rfl (lv_room (Nat.le_of_ble_eq_true rfl)) dX9_have_3 ⟨Nat.zero_le _, Nat.zero_le _⟩) hS (pW_sub rfl) (fun v3 H1 locs hB hS _ hk3 => ?_)
  obtain ⟨hH, hv3, hp3⟩ := hB
  rw [hH] at hS ⊢
  refine lv_if_eq (tgt := 24) hx hb dX9_have_6 (by decide) (fun c6 => ?_) (fun c6 => ?_)
  · skip
    have kl0 : (0 : Int32).toInt = 0 := by decide
    have f6 := i_eq c6
    have hv3_6l : iv v3 0 0 := iv_eql hv3 (iv_c (x := (0 : Int32)) (k := 0) (by decide)) c6 (by decide)
    refine lv_bipush (v := (-2)) hx hb dX9_have_24 (by decide) ?_
    exact ret _ _ _ _ _ dX9_have_26 (⟨hT, iv_w (iv_c (x := (-2 : Int32)) (k := (-2)) (by decide)) (by decide)⟩) hS
  · skip
    have kl0 : (0 : Int32).toInt = 0 := by decide
    have f6 := i_ne c6
    have hv3_6l : iv v3 1 1 := iv_nel hv3 (iv_c (x := (0 : Int32)) (k := 0) (by decide)) c6 (by decide)
    have hv2_6p : jv v2 0 7 := by have b0a := (hv2).1; have b0b := (hv2).2; exact ⟨by omega, by omega⟩
    have hx1_6p : iv x1 0 7 := by have := t2; have b0a := (hv2_6p).1; have b0b := (hv2_6p).2; have b1a := (hx1).1; have b1b := (hx1).2; exact ⟨by omega, by omega⟩
    refine lv_iload_n hx hb dX9_have_9 rfl (lv_at hl 2 rfl) ?_
    refine lv_if_lt (tgt := 24) hx hb dX9_have_10 (by decide) (fun c10 => ?_) (fun c10 => ?_)
    · skip
      have f10 := i_lt c10
      have hx2_10l : iv x2 (-2147483648) (-1) := iv_ltl hx2 (iv_c (x := (0 : Int32)) (k := 0) (by decide)) c10 (by decide)
      refine lv_bipush (v := (-2)) hx hb dX9_have_24 (by decide) ?_
      exact ret _ _ _ _ _ dX9_have_26 (⟨hT, iv_w (iv_c (x := (-2 : Int32)) (k := (-2)) (by decide)) (by decide)⟩) hS
    · skip
      have f10 := i_nlt c10
      have hx2_10r : iv x2 0 2147483647 := iv_ler (iv_c (x := (0 : Int32)) (k := 0) (by decide)) hx2 (Int32.not_lt.mp c10) (by decide)
      refine lv_iload_n hx hb dX9_have_13 rfl (lv_at hl 2 rfl) ?_
      refine lv_aload_n hx hb dX9_have_14 rfl (lv_at hl 0 rfl) ?_
      refine ti_getr hx hb hts inlX9 hown hK hT ha0 rfl rfl rfl 1 (by decide) (hts _ kw_20) (fun _ h9 => h9) rfl dX9_have_15 (fun v15 hv15 hm15 => ?_)
      refine ti_geti hx hb hts inlX7 hown hK hT hv15 rfl rfl rfl 0 (by decide) (hts _ kw_498) (fun _ h9 => h9) rfl dX9_have_18 (fun v18 hv18 hm18 => ?_)
      refine lv_icmp_le (tgt := 27) hx hb dX9_have_21 (by decide) (fun c21 => ?_) (fun c21 => ?_)
      · skip
        have f21 := i_le c21
        have hx2_21l : iv x2 0 100000 := iv_lel hx2_10r hv18 c21 (by decide)
        have hv18_21r : iv v18 0 100000 := iv_ler hx2_21l hv18 c21 (by decide)
        refine lv_aload_n hx hb dX9_have_27 rfl (lv_at hl 0 rfl) ?_
        refine ti_getE (ci := 9) (v := .ref v15) hx hb hts inlX9 hown hK hm15 rfl (by decide) (hts _ kw_20) (fun _ h9 => h9) dX9_have_28 ?_
        refine ti_getr hx hb hts inlX7 hown hK hT hv15 rfl rfl rfl 8 (by decide) (hts _ kw_471) (fun _ h9 => h9) rfl dX9_have_31 (fun v31 hv31 hm31 => ?_)
        refine lv_iload_n hx hb dX9_have_34 rfl (lv_at hl 1 rfl) ?_
        refine ti_aald hx hb (aT6 hK) hT hv31 rfl hx1_6p (by decide) (fun _ _ _ => rfl) dX9_have_35 (fun v35 hv35 => ?_)
        refine ti_geti hx hb hts inlX3 hown hK hT hv35 rfl rfl rfl 0 (by decide) (hts _ kw_472) (fun _ h9 => h9) rfl dX9_have_36 (fun v36 hv36 hm36 => ?_)
        refine lv_istore_n (lv' := [(3, .int v36), (0, .ref a0), (1, .int x1), (2, .int x2)]) hx hb dX9_have_39 rfl hl (by decide) rfl (fun ls hl => ?_)
        refine lv_aload_n hx hb dX9_have_40 rfl (lv_at hl 1 rfl) ?_
        refine ti_getE (ci := 9) (v := .ref v15) hx hb hts inlX9 hown hK hm15 rfl (by decide) (hts _ kw_20) (fun _ h9 => h9) dX9_have_41 ?_
        refine ti_getE (ci := 7) (v := .ref v31) hx hb hts inlX7 hown hK hm31 rfl (by decide) (hts _ kw_471) (fun _ h9 => h9) dX9_have_44 ?_
        refine lv_iload_n hx hb dX9_have_47 rfl (lv_at hl 2 rfl) ?_
        refine ti_aald hx hb (aT6 hK) hT hv31 rfl hx1_6p (by decide) (fun _ _ _ => rfl) dX9_have_48 (fun v48 hv48 => ?_)
        refine lv_iload_n hx hb dX9_have_49 rfl (lv_at hl 3 rfl) ?_
        refine lv_aload_n hx hb dX9_have_50 rfl (lv_at hl 1 rfl) ?_
        refine ti_getE (ci := 9) (v := .ref v15) hx hb hts inlX9 hown hK hm15 rfl (by decide) (hts _ kw_20) (fun _ h9 => h9) dX9_have_51 ?_
        refine ti_getE (ci := 7) (v := .int v18) hx hb hts inlX7 hown hK hm18 rfl (by decide) (hts _ kw_498) (fun _ h9 => h9) dX9_have_54 ?_
        refine ti_callv (va_runV (As := [.int x2, .int v18]) (rest := []) ⟨hx, hb, hml, hown, hts⟩ (t_X3_setHas l hT hv48 (iv_w hx2_21l (by decide)) (iv_w hv18_21r (by decide))) (cwV 2 hts (good_V kw_499 kw_500 kw_501 kw_68 kw_502) rfl rfl rfl (by decide +kernel) ⟨by rw [hR]; decide, by rw [hR]; decide⟩) (ti_preV hK hT hv48 rfl rfl) rfl rfl hl.1 rfl (lv_room (Nat.le_of_ble_eq_true rfl)) dX9_have_57 ⟨Nat.zero_le _, Nat.zero_le _⟩) hS (pW_sub rfl) (fun H locs hB hS _ hk57 => ?_)
        have hT := hB
        refine lv_iload_n hx hb dX9_have_60 rfl (lv_at hl 0 rfl) ?_
        exact ret _ _ _ _ _ dX9_have_61 (⟨hT, iv_w hv36 (by decide)⟩) hS
      · skip
        have f21 := i_nle c21
        refine lv_bipush (v := (-2)) hx hb dX9_have_24 (by decide) ?_
        exact ret _ _ _ _ _ dX9_have_26 (⟨hT, iv_w (iv_c (x := (-2 : Int32)) (k := (-2)) (by decide)) (by decide)⟩) hS
set_option maxHeartbeats 4000000 in
set_option maxRecDepth 100000 in
theorem t_X9_hide (l : Launch) {D : va_G} {c0 : Nat → ClassId} {Y : Nat → Option Nat} {ν : Nat → Nat} {H : Heap} (hT : TI D vwCl (tysOf c0) (RTg ν) Y H) {a0 : Nat} (ha0 : Y a0 = some 9) {x1 : Int32} (hx1 : iv x1 (-2147483648) 2147483647) {x2 : Int32} (hx2 : iv x2 (-2147483648) 2147483647) : Met l yX9_hide (wz yX9_hide cX9_hide 4 (some .int)) { frames := 1, cells := 0, slots := 0, locals := 60 } (TP D vwCl (tysOf c0) H [.ref a0, .int x1, .int x2]) (TQi (fun x H' => TI D vwCl (tysOf c0) (RTg ν) Y H' ∧ iv x (-2147483648) 30) Y [3]) 0 0 (pW Y [3]) := by
  refine Met.ofW (cc := cX9_hide) (maxL := 4) (ret := (some .int)) (by decide) rfl ?_
  intro p e s m args below meth c s₁ B hml hv
  obtain ⟨rfl, rfl, hK⟩ := hv
  have hx := B.exec
  have hb := B.bytes
  have hr := B.returns
  have hts : ∀ w ∈ wq, w.before _ s = true := fun w h => atoms_spec (ws := wz yX9_hide cX9_hide 4 (some .int)) B.pre w (List.mem_cons_of_mem _ h)
  have hown : s.vm.findClass RX9 = some m.cls := findClass_of_methodNamed B.named
  have hlocks := B.notSynchronized
  obtain ⟨R, hR⟩ : ∃ R : Room, R = ({ frames := 1, cells := 0, slots := 0, locals := 60 } : Room) := ⟨_, rfl⟩
  rw [show (headSpec (wz yX9_hide cX9_hide 4 (some .int)) { frames := 1, cells := 0, slots := 0, locals := 60 }).room = R from hR.symm]
  refine ti_mi hx hb hr hlocks (fun Q ret => ?_)
  have hl := lv_entry [.ref a0, .int x1, .int x2] (n := 4) (Nat.le_of_ble_eq_true rfl)
  rw [lg_entry_eq]
  generalize (lg_sl [.ref a0, .int x1, .int x2] ++ List.replicate (4 - (lg_sl [.ref a0, .int x1, .int x2]).length) Slot.unset).toArray = ls at hl ⊢
  have hl : lv_has ls 4 [(0, .ref a0), (1, .int x1), (2, .int x2)] := hl
  refine ti_gen (P := fun H => TI D vwCl (tysOf c0) (RTg ν) Y H) (Y := Y) (ws := [3]) hT (fun H locs hT hS => ?_)
  refine lv_aload_n hx hb dX9_hide_0 rfl (lv_at hl 0 rfl) ?_
  refine lv_iload_n hx hb dX9_hide_1 rfl (lv_at hl 1 rfl) ?_
  refine lv_i2l hx hb dX9_hide_2 rfl ?_
  refine lv_topl (fun v2 e2 => ?_)
  have hv2 : jv v2 (-2147483648) 2147483647 := by rw [e2]; exact jv_i hx1
  have t2 : v2.toInt = x1.toInt := by rw [e2]; exact jv_e _
  refine ti_calli (va_runV (As := [.long v2]) (rest := []) ⟨hx, hb, hml, hown, hts⟩ (t_X9_isPerson l hT ha0 (jv_w hv2 (by decide))) (cwV 1 hts (good_V kw_476 kw_477 kw_478 kw_2 kw_479) rfl rfl rfl (by decide +kernel) ⟨by rw [hR]; decide, by rw [hR]; decide⟩) (ti_preV hK hT ha0 rfl rfl) rfl rfl hl.1 rfl (lv_room (Nat.le_of_ble_eq_true rfl)) dX9_hide_3 ⟨Nat.zero_le _, Nat.zero_le _⟩) hS (pW_sub rfl) (fun v3 H1 locs hB hS _ hk3 => ?_)
  obtain ⟨hH, hv3, hp3⟩ := hB
  rw [hH] at hS ⊢
  refine lv_if_eq (tgt := 19) hx hb dX9_hide_6 (by decide) (fun c6 => ?_) (fun c6 => ?_)
  · skip
    have kl0 : (0 : Int32).toInt = 0 := by decide
    have f6 := i_eq c6
    have hv3_6l : iv v3 0 0 := iv_eql hv3 (iv_c (x := (0 : Int32)) (k := 0) (by decide)) c6 (by decide)
    refine lv_bipush (v := (-2)) hx hb dX9_hide_19 (by decide) ?_
    exact ret _ _ _ _ _ dX9_hide_21 (⟨hT, iv_w (iv_c (x := (-2 : Int32)) (k := (-2)) (by decide)) (by decide)⟩) hS
  · skip
    have kl0 : (0 : Int32).toInt = 0 := by decide
    have f6 := i_ne c6
    have hv3_6l : iv v3 1 1 := iv_nel hv3 (iv_c (x := (0 : Int32)) (k := 0) (by decide)) c6 (by decide)
    have hv2_6p : jv v2 0 7 := by have b0a := (hv2).1; have b0b := (hv2).2; exact ⟨by omega, by omega⟩
    have hx1_6p : iv x1 0 7 := by have := t2; have b0a := (hv2_6p).1; have b0b := (hv2_6p).2; have b1a := (hx1).1; have b1b := (hx1).2; exact ⟨by omega, by omega⟩
    refine lv_iload_n hx hb dX9_hide_9 rfl (lv_at hl 2 rfl) ?_
    refine lv_if_lt (tgt := 19) hx hb dX9_hide_10 (by decide) (fun c10 => ?_) (fun c10 => ?_)
    · skip
      have f10 := i_lt c10
      have hx2_10l : iv x2 (-2147483648) (-1) := iv_ltl hx2 (iv_c (x := (0 : Int32)) (k := 0) (by decide)) c10 (by decide)
      refine lv_bipush (v := (-2)) hx hb dX9_hide_19 (by decide) ?_
      exact ret _ _ _ _ _ dX9_hide_21 (⟨hT, iv_w (iv_c (x := (-2 : Int32)) (k := (-2)) (by decide)) (by decide)⟩) hS
    · skip
      have f10 := i_nlt c10
      have hx2_10r : iv x2 0 2147483647 := iv_ler (iv_c (x := (0 : Int32)) (k := 0) (by decide)) hx2 (Int32.not_lt.mp c10) (by decide)
      refine lv_iload_n hx hb dX9_hide_13 rfl (lv_at hl 2 rfl) ?_
      refine lv_bipush (v := 30) hx hb dX9_hide_14 (by decide) ?_
      refine lv_icmp_le (tgt := 22) hx hb dX9_hide_16 (by decide) (fun c16 => ?_) (fun c16 => ?_)
      · skip
        have kl30 : (30 : Int32).toInt = 30 := by decide
        have f16 := i_le c16
        have hx2_16l : iv x2 0 30 := iv_lel hx2_10r (iv_c (x := (30 : Int32)) (k := 30) (by decide)) c16 (by decide)
        refine lv_aload_n hx hb dX9_hide_22 rfl (lv_at hl 0 rfl) ?_
        refine ti_getr hx hb hts inlX9 hown hK hT ha0 rfl rfl rfl 1 (by decide) (hts _ kw_20) (fun _ h9 => h9) rfl dX9_hide_23 (fun v23 hv23 hm23 => ?_)
        refine ti_getr hx hb hts inlX7 hown hK hT hv23 rfl rfl rfl 8 (by decide) (hts _ kw_471) (fun _ h9 => h9) rfl dX9_hide_26 (fun v26 hv26 hm26 => ?_)
        refine lv_iload_n hx hb dX9_hide_29 rfl (lv_at hl 1 rfl) ?_
        refine ti_aald hx hb (aT6 hK) hT hv26 rfl hx1_6p (by decide) (fun _ _ _ => rfl) dX9_hide_30 (fun v30 hv30 => ?_)
        refine lv_astore_n (lv' := [(3, .ref v30), (0, .ref a0), (1, .int x1), (2, .int x2)]) hx hb dX9_hide_31 rfl hl (by decide) rfl (fun ls hl => ?_)
        refine lv_aload_n hx hb dX9_hide_32 rfl (lv_at hl 0 rfl) ?_
        refine lv_iload_n hx hb dX9_hide_33 rfl (lv_at hl 3 rfl) ?_
        refine lv_aload_n hx hb dX9_hide_34 rfl (lv_at hl 0 rfl) ?_
        refine ti_geti hx hb hts inlX3 hown hK hT hv30 rfl rfl rfl 0 (by decide) (hts _ kw_472) (fun _ h9 => h9) rfl dX9_hide_35 (fun v35 hv35 hm35 => ?_)
        refine va_mmin hx hb (by rw [hml]; exact hl.1.symm) hown (hts _ kw_519) (hts _ kw_211) (hts _ kw_212) (hts _ kw_213) (by rw [hR]; decide) (by rw [hR]; exact Nat.le_of_ble_eq_true rfl) (Nat.zero_le _) (Nat.zero_le _) dX9_hide_38 ?_
        refine lv_topi (fun v38 e38 => ?_)
        have hv38 : iv v38 (-2147483648) 30 := by rw [e38]; exact iv_min hx2_16l hv35 (by decide)
        refine ti_put (ty := .int) hx hb hts inlX3 tyX3 tyX3_ok nmX3 hown hK hT hS hv30 rfl rfl rfl rfl 1 (by decide) (hts _ kw_473) (fun _ h9 => h9) rfl rfl (by decide +kernel) rfl rfl ⟨v38, rfl, iv_w hv38 (by decide)⟩ (fun _ _ => trivial) dX9_hide_41 (fun H locs hT hS oq41 he41 hk41 => ?_)
        refine lv_aload_n hx hb dX9_hide_44 rfl (lv_at hl 0 rfl) ?_
        refine ti_getE (ci := 3) (v := .int v38) hx hb hts inlX3 hown hK he41 rfl (by decide) (hts _ kw_473) (fun _ h9 => h9) dX9_hide_45 ?_
        exact ret _ _ _ _ _ dX9_hide_48 (⟨hT, iv_w hv38 (by decide)⟩) hS
      · skip
        have kl30 : (30 : Int32).toInt = 30 := by decide
        have f16 := i_nle c16
        have hx2_16r : iv x2 31 2147483647 := iv_ltr (iv_c (x := (30 : Int32)) (k := 30) (by decide)) hx2_10r (Int32.not_le.mp c16) (by decide)
        refine lv_bipush (v := (-2)) hx hb dX9_hide_19 (by decide) ?_
        exact ret _ _ _ _ _ dX9_hide_21 (⟨hT, iv_w (iv_c (x := (-2 : Int32)) (k := (-2)) (by decide)) (by decide)⟩) hS
set_option maxHeartbeats 4000000 in
set_option maxRecDepth 100000 in
theorem t_X9_seen (l : Launch) {D : va_G} {c0 : Nat → ClassId} {Y : Nat → Option Nat} {ν : Nat → Nat} {H : Heap} (hT : TI D vwCl (tysOf c0) (RTg ν) Y H) {a0 : Nat} (ha0 : Y a0 = some 9) {x1 : Int32} (hx1 : iv x1 (-2147483648) 2147483647) {x2 : Int32} (hx2 : iv x2 (-2147483648) 2147483647) : Met l yX9_seen (wz yX9_seen cX9_seen 3 (some .int)) { frames := 2, cells := 0, slots := 0, locals := 44 } (TP D vwCl (tysOf c0) H [.ref a0, .int x1, .int x2]) (TQi (fun x H' => H' = H) Y []) 0 0 (pW Y []) := by
  refine Met.ofW (cc := cX9_seen) (maxL := 3) (ret := (some .int)) (by decide) rfl ?_
  intro p e s m args below meth c s₁ B hml hv
  obtain ⟨rfl, rfl, hK⟩ := hv
  have hx := B.exec
  have hb := B.bytes
  have hr := B.returns
  have hts : ∀ w ∈ wq, w.before _ s = true := fun w h => atoms_spec (ws := wz yX9_seen cX9_seen 3 (some .int)) B.pre w (List.mem_cons_of_mem _ h)
  have hown : s.vm.findClass RX9 = some m.cls := findClass_of_methodNamed B.named
  have hlocks := B.notSynchronized
  obtain ⟨R, hR⟩ : ∃ R : Room, R = ({ frames := 2, cells := 0, slots := 0, locals := 44 } : Room) := ⟨_, rfl⟩
  rw [show (headSpec (wz yX9_seen cX9_seen 3 (some .int)) { frames := 2, cells := 0, slots := 0, locals := 44 }).room = R from hR.symm]
  refine ti_mi hx hb hr hlocks (fun Q ret => ?_)
  have hl := lv_entry [.ref a0, .int x1, .int x2] (n := 3) (Nat.le_of_ble_eq_true rfl)
  rw [lg_entry_eq]
  generalize (lg_sl [.ref a0, .int x1, .int x2] ++ List.replicate (3 - (lg_sl [.ref a0, .int x1, .int x2]).length) Slot.unset).toArray = ls at hl ⊢
  have hl : lv_has ls 3 [(0, .ref a0), (1, .int x1), (2, .int x2)] := hl
  have hS : va_S (pW Y []) s.heap s.heap [] := va_S.rf
  refine lv_aload_n hx hb dX9_seen_0 rfl (lv_at hl 0 rfl) ?_
  refine lv_iload_n hx hb dX9_seen_1 rfl (lv_at hl 1 rfl) ?_
  refine lv_iload_n hx hb dX9_seen_2 rfl (lv_at hl 2 rfl) ?_
  refine ti_calli (va_runV (As := [.int x1, .int x2]) (rest := []) ⟨hx, hb, hml, hown, hts⟩ (t_X9_arePair l hT ha0 (iv_w hx1 (by decide)) (iv_w hx2 (by decide))) (cwV 2 hts (good_V kw_529 kw_530 kw_531 kw_2 kw_532) rfl rfl rfl (by decide +kernel) ⟨by rw [hR]; decide, by rw [hR]; decide⟩) (ti_preV hK hT ha0 rfl rfl) rfl rfl hl.1 rfl (lv_room (Nat.le_of_ble_eq_true rfl)) dX9_seen_3 ⟨Nat.zero_le _, Nat.zero_le _⟩) hS (pW_sub rfl) (fun v3 H1 locs hB hS _ hk3 => ?_)
  obtain ⟨hH, hv3, hp3⟩ := hB
  rw [hH] at hS ⊢
  refine lv_if_eq (tgt := 21) hx hb dX9_seen_6 (by decide) (fun c6 => ?_) (fun c6 => ?_)
  · skip
    have kl0 : (0 : Int32).toInt = 0 := by decide
    have f6 := i_eq c6
    have hv3_6l : iv v3 0 0 := iv_eql hv3 (iv_c (x := (0 : Int32)) (k := 0) (by decide)) c6 (by decide)
    refine lv_bipush (v := (-2)) hx hb dX9_seen_21 (by decide) ?_
    exact ret _ _ _ _ _ dX9_seen_23 (rfl) hS
  · skip
    have kl0 : (0 : Int32).toInt = 0 := by decide
    have f6 := i_ne c6
    have hv3_6l : iv v3 1 1 := iv_nel hv3 (iv_c (x := (0 : Int32)) (k := 0) (by decide)) c6 (by decide)
    have hx1_6p : iv x1 0 7 := by have b0a := (hx1).1; have b0b := (hx1).2; exact ⟨by omega, by omega⟩
    have hx2_6p : iv x2 0 7 := by have b0a := (hx2).1; have b0b := (hx2).2; exact ⟨by omega, by omega⟩
    refine lv_aload_n hx hb dX9_seen_9 rfl (lv_at hl 0 rfl) ?_
    refine ti_getr hx hb hts inlX9 hown hK hT ha0 rfl rfl rfl 1 (by decide) (hts _ kw_20) (fun _ h9 => h9) rfl dX9_seen_10 (fun v10 hv10 hm10 => ?_)
    refine lv_iload_n hx hb dX9_seen_13 rfl (lv_at hl 1 rfl) ?_
    refine lv_iload_n hx hb dX9_seen_14 rfl (lv_at hl 2 rfl) ?_
    refine ti_calli (va_runV (As := [.int x1, .int x2]) (rest := []) ⟨hx, hb, hml, hown, hts⟩ (t_X7_seenBy l hT hv10 (iv_w hx1_6p (by decide)) (iv_w hx2_6p (by decide))) (cwV 2 hts (good_V kw_533 kw_534 kw_535 kw_19 kw_536) rfl rfl rfl (by decide +kernel) ⟨by rw [hR]; decide, by rw [hR]; decide⟩) (ti_preV hK hT hv10 rfl rfl) rfl rfl hl.1 rfl (lv_room (Nat.le_of_ble_eq_true rfl)) dX9_seen_15 ⟨Nat.zero_le _, Nat.zero_le _⟩) hS (pW_sub rfl) (fun v15 H1 locs hB hS _ hk15 => ?_)
    have hH := hB
    rw [hH] at hS ⊢
    refine lv_goto (tgt := 23) hx hb dX9_seen_18 (by decide) ?_
    exact ret _ _ _ _ _ dX9_seen_23 (rfl) hS
set_option maxHeartbeats 4000000 in
set_option maxRecDepth 100000 in
theorem t_X9_sight (l : Launch) {D : va_G} {c0 : Nat → ClassId} {Y : Nat → Option Nat} {ν : Nat → Nat} {H : Heap} (hT : TI D vwCl (tysOf c0) (RTg ν) Y H) {a0 : Nat} (ha0 : Y a0 = some 9) {x1 : Int32} (hx1 : iv x1 (-2147483648) 2147483647) {x2 : Int32} (hx2 : iv x2 (-2147483648) 2147483647) {x3 : Int32} (hx3 : iv x3 (-2147483648) 2147483647) : Met l yX9_sight (wz yX9_sight cX9_sight 6 (some .int)) { frames := 2, cells := 0, slots := 0, locals := 44 } (TP D vwCl (tysOf c0) H [.ref a0, .int x1, .int x2, .int x3]) (TQi (fun x H' => TI D vwCl (tysOf c0) (RTg ν) Y H') Y [22]) 0 0 (pW Y [22]) := by
  refine Met.ofW (cc := cX9_sight) (maxL := 6) (ret := (some .int)) (by decide) rfl ?_
  intro p e s m args below meth c s₁ B hml hv
  obtain ⟨rfl, rfl, hK⟩ := hv
  have hx := B.exec
  have hb := B.bytes
  have hr := B.returns
  have hts : ∀ w ∈ wq, w.before _ s = true := fun w h => atoms_spec (ws := wz yX9_sight cX9_sight 6 (some .int)) B.pre w (List.mem_cons_of_mem _ h)
  have hown : s.vm.findClass RX9 = some m.cls := findClass_of_methodNamed B.named
  have hlocks := B.notSynchronized
  obtain ⟨R, hR⟩ : ∃ R : Room, R = ({ frames := 2, cells := 0, slots := 0, locals := 44 } : Room) := ⟨_, rfl⟩
  rw [show (headSpec (wz yX9_sight cX9_sight 6 (some .int)) { frames := 2, cells := 0, slots := 0, locals := 44 }).room = R from hR.symm]
  refine ti_mi hx hb hr hlocks (fun Q ret => ?_)
  have hl := lv_entry [.ref a0, .int x1, .int x2, .int x3] (n := 6) (Nat.le_of_ble_eq_true rfl)
  rw [lg_entry_eq]
  generalize (lg_sl [.ref a0, .int x1, .int x2, .int x3] ++ List.replicate (6 - (lg_sl [.ref a0, .int x1, .int x2, .int x3]).length) Slot.unset).toArray = ls at hl ⊢
  have hl : lv_has ls 6 [(0, .ref a0), (1, .int x1), (2, .int x2), (3, .int x3)] := hl
  refine ti_gen (P := fun H => TI D vwCl (tysOf c0) (RTg ν) Y H) (Y := Y) (ws := [22]) hT (fun H locs hT hS => ?_)
  refine lv_aload_n hx hb dX9_sight_0 rfl (lv_at hl 0 rfl) ?_
  refine lv_iload_n hx hb dX9_sight_1 rfl (lv_at hl 1 rfl) ?_
  refine lv_iload_n hx hb dX9_sight_2 rfl (lv_at hl 2 rfl) ?_
  refine ti_calli (va_runV (As := [.int x1, .int x2]) (rest := []) ⟨hx, hb, hml, hown, hts⟩ (t_X9_arePair l hT ha0 (iv_w hx1 (by decide)) (iv_w hx2 (by decide))) (cwV 2 hts (good_V kw_529 kw_530 kw_531 kw_2 kw_532) rfl rfl rfl (by decide +kernel) ⟨by rw [hR]; decide, by rw [hR]; decide⟩) (ti_preV hK hT ha0 rfl rfl) rfl rfl hl.1 rfl (lv_room (Nat.le_of_ble_eq_true rfl)) dX9_sight_3 ⟨Nat.zero_le _, Nat.zero_le _⟩) hS (pW_sub rfl) (fun v3 H1 locs hB hS _ hk3 => ?_)
  obtain ⟨hH, hv3, hp3⟩ := hB
  rw [hH] at hS ⊢
  refine lv_if_eq (tgt := 20) hx hb dX9_sight_6 (by decide) (fun c6 => ?_) (fun c6 => ?_)
  · skip
    have kl0 : (0 : Int32).toInt = 0 := by decide
    have f6 := i_eq c6
    have hv3_6l : iv v3 0 0 := iv_eql hv3 (iv_c (x := (0 : Int32)) (k := 0) (by decide)) c6 (by decide)
    refine lv_bipush (v := (-2)) hx hb dX9_sight_20 (by decide) ?_
    exact ret _ _ _ _ _ dX9_sight_22 (hT) hS
  · skip
    have kl0 : (0 : Int32).toInt = 0 := by decide
    have f6 := i_ne c6
    have hv3_6l : iv v3 1 1 := iv_nel hv3 (iv_c (x := (0 : Int32)) (k := 0) (by decide)) c6 (by decide)
    have hx1_6p : iv x1 0 7 := by have b0a := (hx1).1; have b0b := (hx1).2; exact ⟨by omega, by omega⟩
    have hx2_6p : iv x2 0 7 := by have b0a := (hx2).1; have b0b := (hx2).2; exact ⟨by omega, by omega⟩
    refine lv_iload_n hx hb dX9_sight_9 rfl (lv_at hl 3 rfl) ?_
    refine lv_iconst (v := 1) hx hb dX9_sight_10 (by decide) ?_
    refine lv_icmp_lt (tgt := 20) hx hb dX9_sight_11 (by decide) (fun c11 => ?_) (fun c11 => ?_)
    · skip
      have kl1 : (1 : Int32).toInt = 1 := by decide
      have f11 := i_lt c11
      have hx3_11l : iv x3 (-2147483648) 0 := iv_ltl hx3 (iv_c (x := (1 : Int32)) (k := 1) (by decide)) c11 (by decide)
      refine lv_bipush (v := (-2)) hx hb dX9_sight_20 (by decide) ?_
      exact ret _ _ _ _ _ dX9_sight_22 (hT) hS
    · skip
      have kl1 : (1 : Int32).toInt = 1 := by decide
      have f11 := i_nlt c11
      have hx3_11r : iv x3 1 2147483647 := iv_ler (iv_c (x := (1 : Int32)) (k := 1) (by decide)) hx3 (Int32.not_lt.mp c11) (by decide)
      refine lv_iload_n hx hb dX9_sight_14 rfl (lv_at hl 3 rfl) ?_
      refine lv_bipush (v := 30) hx hb dX9_sight_15 (by decide) ?_
      refine lv_icmp_le (tgt := 23) hx hb dX9_sight_17 (by decide) (fun c17 => ?_) (fun c17 => ?_)
      · skip
        have kl30 : (30 : Int32).toInt = 30 := by decide
        have f17 := i_le c17
        have hx3_17l : iv x3 1 30 := iv_lel hx3_11r (iv_c (x := (30 : Int32)) (k := 30) (by decide)) c17 (by decide)
        refine lv_iload_n hx hb dX9_sight_23 rfl (lv_at hl 1 rfl) ?_
        refine lv_bipush (v := 8) hx hb dX9_sight_24 (by decide) ?_
        refine lv_imul hx hb dX9_sight_26 ?_
        refine lv_topi (fun v26 e26 => ?_)
        have hv26 : iv v26 0 56 := by rw [e26]; exact iv_mul hx1_6p (iv_c (x := (8 : Int32)) (k := 8) (by decide)) (by decide)
        have kl8 : (8 : Int32).toInt = 8 := by decide
        have s26 : v26.toInt = x1.toInt * (8 : Int32).toInt := by rw [e26]; exact iv_mulE hx1_6p (iv_c (x := (8 : Int32)) (k := 8) (by decide)) (by decide)
        have s26 : v26.toInt = 8 * x1.toInt := by rw [s26]; simp only [show (8 : Int32).toInt = 8 from by decide]; try omega
        refine lv_iload_n hx hb dX9_sight_27 rfl (lv_at hl 2 rfl) ?_
        refine lv_iadd hx hb dX9_sight_28 ?_
        refine lv_topi (fun v28 e28 => ?_)
        have hv28 : iv v28 0 63 := by rw [e28]; exact iv_w (iv_add hv26 hx2_6p (by decide)) (by decide)
        have s28 : v28.toInt = v26.toInt + x2.toInt := by rw [e28]; exact iv_addE hv26 hx2_6p (by decide)
        refine lv_istore (lv' := [(4, .int v28), (0, .ref a0), (1, .int x1), (2, .int x2), (3, .int x3)]) hx hb dX9_sight_29 hl (by decide) rfl (fun ls hl => ?_)
        refine lv_aload_n hx hb dX9_sight_31 rfl (lv_at hl 1 rfl) ?_
        refine ti_getr hx hb hts inlX9 hown hK hT ha0 rfl rfl rfl 1 (by decide) (hts _ kw_20) (fun _ h9 => h9) rfl dX9_sight_32 (fun v32 hv32 hm32 => ?_)
        refine ti_getr hx hb hts inlX7 hown hK hT hv32 rfl rfl rfl 9 (by decide) (hts _ kw_561) (fun _ h9 => h9) rfl dX9_sight_35 (fun v35 hv35 hm35 => ?_)
        refine lv_iload hx hb dX9_sight_38 (lv_at hl 0 rfl) ?_
        refine ti_iald (lo := (-2147483648)) (hi := 2147483647) hx hb (aT0 hK) hT hv35 rfl hv28 (by decide) (fun _ _ _ => ⟨_, _, rfl, by decide, by decide⟩) dX9_sight_40 (fun v40 hv40 hm40 => ?_)
        refine lv_istore (lv' := [(5, .int v40), (4, .int v28), (0, .ref a0), (1, .int x1), (2, .int x2), (3, .int x3)]) hx hb dX9_sight_41 hl (by decide) rfl (fun ls hl => ?_)
        refine lv_aload_n hx hb dX9_sight_43 rfl (lv_at hl 2 rfl) ?_
        refine ti_getE (ci := 9) (v := .ref v32) hx hb hts inlX9 hown hK hm32 rfl (by decide) (hts _ kw_20) (fun _ h9 => h9) dX9_sight_44 ?_
        refine ti_getE (ci := 7) (v := .ref v35) hx hb hts inlX7 hown hK hm35 rfl (by decide) (hts _ kw_561) (fun _ h9 => h9) dX9_sight_47 ?_
        refine lv_iload hx hb dX9_sight_50 (lv_at hl 1 rfl) ?_
        refine lv_iload_n hx hb dX9_sight_52 rfl (lv_at hl 5 rfl) ?_
        refine ti_iast hx hb (aT0 hK) hT hS hv35 rfl rfl hv28 (by decide) (fun _ _ _ => ⟨_, _, rfl, by decide, by decide⟩) hx3_17l (fun _ _ => trivial) dX9_sight_53 (fun H locs hT hS oq53 he53 hk53 => ?_)
        refine lv_iload hx hb dX9_sight_54 (lv_at hl 0 rfl) ?_
        exact ret _ _ _ _ _ dX9_sight_56 (hT) hS
      · skip
        have kl30 : (30 : Int32).toInt = 30 := by decide
        have f17 := i_nle c17
        have hx3_17r : iv x3 31 2147483647 := iv_ltr (iv_c (x := (30 : Int32)) (k := 30) (by decide)) hx3_11r (Int32.not_le.mp c17) (by decide)
        refine lv_bipush (v := (-2)) hx hb dX9_sight_20 (by decide) ?_
        exact ret _ _ _ _ _ dX9_sight_22 (hT) hS
set_option maxHeartbeats 4000000 in
set_option maxRecDepth 100000 in
theorem t_X9_lookNow (l : Launch) {D : va_G} {c0 : Nat → ClassId} {Y : Nat → Option Nat} {ν : Nat → Nat} {H : Heap} (hT : TI D vwCl (tysOf c0) (RTg ν) Y H) {a0 : Nat} (ha0 : Y a0 = some 9) : Met l yX9_lookNow (wz yX9_lookNow cX9_lookNow 1 none) { frames := 1, cells := 0, slots := 0, locals := 23 } (TP D vwCl (tysOf c0) H [.ref a0]) (TQv (fun H' => TI D vwCl (tysOf c0) (RTg ν) Y H') Y [4, 29]) 0 0 (pW Y [4, 29]) := by
  refine Met.ofW (cc := cX9_lookNow) (maxL := 1) (ret := none) (by decide) rfl ?_
  intro p e s m args below meth c s₁ B hml hv
  obtain ⟨rfl, rfl, hK⟩ := hv
  have hx := B.exec
  have hb := B.bytes
  have hr := B.returns
  have hts : ∀ w ∈ wq, w.before _ s = true := fun w h => atoms_spec (ws := wz yX9_lookNow cX9_lookNow 1 none) B.pre w (List.mem_cons_of_mem _ h)
  have hown : s.vm.findClass RX9 = some m.cls := findClass_of_methodNamed B.named
  have hlocks := B.notSynchronized
  obtain ⟨R, hR⟩ : ∃ R : Room, R = ({ frames := 1, cells := 0, slots := 0, locals := 23 } : Room) := ⟨_, rfl⟩
  rw [show (headSpec (wz yX9_lookNow cX9_lookNow 1 none) { frames := 1, cells := 0, slots := 0, locals := 23 }).room = R from hR.symm]
  refine ti_mv hx hb hr hlocks (fun Q ret => ?_)
  have hl := lv_entry [.ref a0] (n := 1) (Nat.le_of_ble_eq_true rfl)
  rw [lg_entry_eq]
  generalize (lg_sl [.ref a0] ++ List.replicate (1 - (lg_sl [.ref a0]).length) Slot.unset).toArray = ls at hl ⊢
  have hl : lv_has ls 1 [(0, .ref a0)] := hl
  refine ti_gen (P := fun H => TI D vwCl (tysOf c0) (RTg ν) Y H) (Y := Y) (ws := [4, 29]) hT (fun H locs hT hS => ?_)
  refine lv_aload_n hx hb dX9_lookNow_0 rfl (lv_at hl 0 rfl) ?_
  refine ti_getr hx hb hts inlX9 hown hK hT ha0 rfl rfl rfl 6 (by decide) (hts _ kw_30) (fun _ h9 => h9) rfl dX9_lookNow_1 (fun v1 hv1 hm1 => ?_)
  refine lv_aload_n hx hb dX9_lookNow_4 rfl (lv_at hl 0 rfl) ?_
  refine ti_getr hx hb hts inlX9 hown hK hT ha0 rfl rfl rfl 1 (by decide) (hts _ kw_20) (fun _ h9 => h9) rfl dX9_lookNow_5 (fun v5 hv5 hm5 => ?_)
  refine ti_callv (va_runV (As := [.ref v5]) (rest := []) ⟨hx, hb, hml, hown, hts⟩ (t_X4_load l hT hv1 hv5) (cwV 1 hts (good_V kw_576 kw_577 kw_578 kw_29 kw_579) rfl rfl rfl (by decide +kernel) ⟨by rw [hR]; decide, by rw [hR]; decide⟩) (ti_preV hK hT hv1 rfl rfl) rfl rfl hl.1 rfl (lv_room (Nat.le_of_ble_eq_true rfl)) dX9_lookNow_8 ⟨Nat.zero_le _, Nat.zero_le _⟩) hS (pW_sub rfl) (fun H locs hB hS _ hk8 => ?_)
  have hT := hB
  refine lv_aload_n hx hb dX9_lookNow_11 rfl (lv_at hl 0 rfl) ?_
  refine ti_getE (ci := 9) (v := .ref v1) hx hb hts inlX9 hown hK (hm1.call hk8 (pW_not ha0 rfl)) rfl (by decide) (hts _ kw_30) (fun _ h9 => h9) dX9_lookNow_12 ?_
  refine lv_aload_n hx hb dX9_lookNow_15 rfl (lv_at hl 0 rfl) ?_
  refine ti_getE (ci := 9) (v := .ref v5) hx hb hts inlX9 hown hK (hm5.call hk8 (pW_not ha0 rfl)) rfl (by decide) (hts _ kw_20) (fun _ h9 => h9) dX9_lookNow_16 ?_
  refine ti_getr hx hb hts inlX7 hown hK hT hv5 rfl rfl rfl 6 (by decide) (hts _ kw_575) (fun _ h9 => h9) rfl dX9_lookNow_19 (fun v19 hv19 hm19 => ?_)
  refine ti_callv (va_runV (As := [.ref v19]) (rest := []) ⟨hx, hb, hml, hown, hts⟩ (t_X4_look l hT hv1 hv19) (cwV 1 hts (good_V kw_589 kw_590 kw_591 kw_29 kw_592) rfl rfl rfl (by decide +kernel) ⟨by rw [hR]; decide, by rw [hR]; decide⟩) (ti_preV hK hT hv1 rfl rfl) rfl rfl hl.1 rfl (lv_room (Nat.le_of_ble_eq_true rfl)) dX9_lookNow_22 ⟨Nat.zero_le _, Nat.zero_le _⟩) hS (pW_sub rfl) (fun H locs hB hS _ hk22 => ?_)
  have hT := hB
  exact ret _ _ _ _ dX9_lookNow_25 (hT) hS
set_option maxHeartbeats 4000000 in
set_option maxRecDepth 100000 in
theorem t_X9_tops (l : Launch) {D : va_G} {c0 : Nat → ClassId} {Y : Nat → Option Nat} {ν : Nat → Nat} {H : Heap} (hT : TI D vwCl (tysOf c0) (RTg ν) Y H) {a0 : Nat} (ha0 : Y a0 = some 9) : Met l yX9_tops (wz yX9_tops cX9_tops 1 (some .int)) { frames := 2, cells := 0, slots := 0, locals := 43 } (TP D vwCl (tysOf c0) H [.ref a0]) (TQi (fun x H' => TI D vwCl (tysOf c0) (RTg ν) Y H') Y [4, 29]) 0 0 (pW Y [4, 29]) := by
  refine Met.ofW (cc := cX9_tops) (maxL := 1) (ret := (some .int)) (by decide) rfl ?_
  intro p e s m args below meth c s₁ B hml hv
  obtain ⟨rfl, rfl, hK⟩ := hv
  have hx := B.exec
  have hb := B.bytes
  have hr := B.returns
  have hts : ∀ w ∈ wq, w.before _ s = true := fun w h => atoms_spec (ws := wz yX9_tops cX9_tops 1 (some .int)) B.pre w (List.mem_cons_of_mem _ h)
  have hown : s.vm.findClass RX9 = some m.cls := findClass_of_methodNamed B.named
  have hlocks := B.notSynchronized
  obtain ⟨R, hR⟩ : ∃ R : Room, R = ({ frames := 2, cells := 0, slots := 0, locals := 43 } : Room) := ⟨_, rfl⟩
  rw [show (headSpec (wz yX9_tops cX9_tops 1 (some .int)) { frames := 2, cells := 0, slots := 0, locals := 43 }).room = R from hR.symm]
  refine ti_mi hx hb hr hlocks (fun Q ret => ?_)
  have hl := lv_entry [.ref a0] (n := 1) (Nat.le_of_ble_eq_true rfl)
  rw [lg_entry_eq]
  generalize (lg_sl [.ref a0] ++ List.replicate (1 - (lg_sl [.ref a0]).length) Slot.unset).toArray = ls at hl ⊢
  have hl : lv_has ls 1 [(0, .ref a0)] := hl
  refine ti_gen (P := fun H => TI D vwCl (tysOf c0) (RTg ν) Y H) (Y := Y) (ws := [4, 29]) hT (fun H locs hT hS => ?_)
  refine lv_aload_n hx hb dX9_tops_0 rfl (lv_at hl 0 rfl) ?_
  refine ti_getr hx hb hts inlX9 hown hK hT ha0 rfl rfl rfl 1 (by decide) (hts _ kw_20) (fun _ h9 => h9) rfl dX9_tops_1 (fun v1 hv1 hm1 => ?_)
  refine ti_geti hx hb hts inlX7 hown hK hT hv1 rfl rfl rfl 1 (by decide) (hts _ kw_480) (fun _ h9 => h9) rfl dX9_tops_4 (fun v4 hv4 hm4 => ?_)
  refine lv_if_ne (tgt := 13) hx hb dX9_tops_7 (by decide) (fun c7 => ?_) (fun c7 => ?_)
  · skip
    have kl0 : (0 : Int32).toInt = 0 := by decide
    have f7 := i_ne c7
    have hv4_7l : iv v4 1 8 := iv_nel hv4 (iv_c (x := (0 : Int32)) (k := 0) (by decide)) c7 (by decide)
    refine lv_aload_n hx hb dX9_tops_13 rfl (lv_at hl 0 rfl) ?_
    refine ti_callv (va_runV (As := []) (rest := []) ⟨hx, hb, hml, hown, hts⟩ (t_X9_lookNow l hT ha0) (cwV 0 hts (good_V kw_571 kw_572 kw_573 kw_2 kw_574) rfl rfl rfl (by decide +kernel) ⟨by rw [hR]; decide, by rw [hR]; decide⟩) (ti_preV hK hT ha0 rfl rfl) rfl rfl hl.1 rfl (lv_room (Nat.le_of_ble_eq_true rfl)) dX9_tops_14 ⟨Nat.zero_le _, Nat.zero_le _⟩) hS (pW_sub rfl) (fun H locs hB hS _ hk14 => ?_)
    have hT := hB
    refine lv_aload_n hx hb dX9_tops_17 rfl (lv_at hl 0 rfl) ?_
    refine ti_getr hx hb hts inlX9 hown hK hT ha0 rfl rfl rfl 6 (by decide) (hts _ kw_30) (fun _ h9 => h9) rfl dX9_tops_18 (fun v18 hv18 hm18 => ?_)
    refine ti_geti hx hb hts inlX4 hown hK hT hv18 rfl rfl rfl 7 (by decide) (hts _ kw_570) (fun _ h9 => h9) rfl dX9_tops_21 (fun v21 hv21 hm21 => ?_)
    exact ret _ _ _ _ _ dX9_tops_24 (hT) hS
  · skip
    have kl0 : (0 : Int32).toInt = 0 := by decide
    have f7 := i_eq c7
    have hv4_7l : iv v4 0 0 := iv_eql hv4 (iv_c (x := (0 : Int32)) (k := 0) (by decide)) c7 (by decide)
    refine lv_bipush (v := (-2)) hx hb dX9_tops_10 (by decide) ?_
    exact ret _ _ _ _ _ dX9_tops_12 (hT) hS
set_option maxHeartbeats 4000000 in
set_option maxRecDepth 100000 in
theorem t_X9_next (l : Launch) {D : va_G} {c0 : Nat → ClassId} {Y : Nat → Option Nat} {ν : Nat → Nat} {H : Heap} (hT : TI D vwCl (tysOf c0) (RTg ν) Y H) {a0 : Nat} (ha0 : Y a0 = some 9) : Met l yX9_next (wz yX9_next cX9_next 1 (some .int)) { frames := 2, cells := 0, slots := 0, locals := 43 } (TP D vwCl (tysOf c0) H [.ref a0]) (TQi (fun x H' => TI D vwCl (tysOf c0) (RTg ν) Y H') Y [4, 29]) 0 0 (pW Y [4, 29]) := by
  refine Met.ofW (cc := cX9_next) (maxL := 1) (ret := (some .int)) (by decide) rfl ?_
  intro p e s m args below meth c s₁ B hml hv
  obtain ⟨rfl, rfl, hK⟩ := hv
  have hx := B.exec
  have hb := B.bytes
  have hr := B.returns
  have hts : ∀ w ∈ wq, w.before _ s = true := fun w h => atoms_spec (ws := wz yX9_next cX9_next 1 (some .int)) B.pre w (List.mem_cons_of_mem _ h)
  have hown : s.vm.findClass RX9 = some m.cls := findClass_of_methodNamed B.named
  have hlocks := B.notSynchronized
  obtain ⟨R, hR⟩ : ∃ R : Room, R = ({ frames := 2, cells := 0, slots := 0, locals := 43 } : Room) := ⟨_, rfl⟩
  rw [show (headSpec (wz yX9_next cX9_next 1 (some .int)) { frames := 2, cells := 0, slots := 0, locals := 43 }).room = R from hR.symm]
  refine ti_mi hx hb hr hlocks (fun Q ret => ?_)
  have hl := lv_entry [.ref a0] (n := 1) (Nat.le_of_ble_eq_true rfl)
  rw [lg_entry_eq]
  generalize (lg_sl [.ref a0] ++ List.replicate (1 - (lg_sl [.ref a0]).length) Slot.unset).toArray = ls at hl ⊢
  have hl : lv_has ls 1 [(0, .ref a0)] := hl
  refine ti_gen (P := fun H => TI D vwCl (tysOf c0) (RTg ν) Y H) (Y := Y) (ws := [4, 29]) hT (fun H locs hT hS => ?_)
  refine lv_aload_n hx hb dX9_next_0 rfl (lv_at hl 0 rfl) ?_
  refine ti_getr hx hb hts inlX9 hown hK hT ha0 rfl rfl rfl 1 (by decide) (hts _ kw_20) (fun _ h9 => h9) rfl dX9_next_1 (fun v1 hv1 hm1 => ?_)
  refine ti_geti hx hb hts inlX7 hown hK hT hv1 rfl rfl rfl 1 (by decide) (hts _ kw_480) (fun _ h9 => h9) rfl dX9_next_4 (fun v4 hv4 hm4 => ?_)
  refine lv_if_ne (tgt := 13) hx hb dX9_next_7 (by decide) (fun c7 => ?_) (fun c7 => ?_)
  · skip
    have kl0 : (0 : Int32).toInt = 0 := by decide
    have f7 := i_ne c7
    have hv4_7l : iv v4 1 8 := iv_nel hv4 (iv_c (x := (0 : Int32)) (k := 0) (by decide)) c7 (by decide)
    refine lv_aload_n hx hb dX9_next_13 rfl (lv_at hl 0 rfl) ?_
    refine ti_callv (va_runV (As := []) (rest := []) ⟨hx, hb, hml, hown, hts⟩ (t_X9_lookNow l hT ha0) (cwV 0 hts (good_V kw_571 kw_572 kw_573 kw_2 kw_574) rfl rfl rfl (by decide +kernel) ⟨by rw [hR]; decide, by rw [hR]; decide⟩) (ti_preV hK hT ha0 rfl rfl) rfl rfl hl.1 rfl (lv_room (Nat.le_of_ble_eq_true rfl)) dX9_next_14 ⟨Nat.zero_le _, Nat.zero_le _⟩) hS (pW_sub rfl) (fun H locs hB hS _ hk14 => ?_)
    have hT := hB
    refine lv_aload_n hx hb dX9_next_17 rfl (lv_at hl 0 rfl) ?_
    refine ti_getr hx hb hts inlX9 hown hK hT ha0 rfl rfl rfl 6 (by decide) (hts _ kw_30) (fun _ h9 => h9) rfl dX9_next_18 (fun v18 hv18 hm18 => ?_)
    refine ti_geti hx hb hts inlX4 hown hK hT hv18 rfl rfl rfl 6 (by decide) (hts _ kw_624) (fun _ h9 => h9) rfl dX9_next_21 (fun v21 hv21 hm21 => ?_)
    exact ret _ _ _ _ _ dX9_next_24 (hT) hS
  · skip
    have kl0 : (0 : Int32).toInt = 0 := by decide
    have f7 := i_eq c7
    have hv4_7l : iv v4 0 0 := iv_eql hv4 (iv_c (x := (0 : Int32)) (k := 0) (by decide)) c7 (by decide)
    refine lv_bipush (v := (-2)) hx hb dX9_next_10 (by decide) ?_
    exact ret _ _ _ _ _ dX9_next_12 (hT) hS
set_option maxHeartbeats 4000000 in
set_option maxRecDepth 100000 in
theorem t_X9_loses (l : Launch) {D : va_G} {c0 : Nat → ClassId} {Y : Nat → Option Nat} {ν : Nat → Nat} {H : Heap} (hT : TI D vwCl (tysOf c0) (RTg ν) Y H) {a0 : Nat} (ha0 : Y a0 = some 9) {x1 : Int32} (hx1 : iv x1 (-2147483648) 2147483647) : Met l yX9_loses (wz yX9_loses cX9_loses 2 (some .int)) { frames := 2, cells := 0, slots := 0, locals := 43 } (TP D vwCl (tysOf c0) H [.ref a0, .int x1]) (TQi (fun x H' => TI D vwCl (tysOf c0) (RTg ν) Y H') Y [4, 29]) 0 0 (pW Y [4, 29]) := by
  refine Met.ofW (cc := cX9_loses) (maxL := 2) (ret := (some .int)) (by decide) rfl ?_
  intro p e s m args below meth c s₁ B hml hv
  obtain ⟨rfl, rfl, hK⟩ := hv
  have hx := B.exec
  have hb := B.bytes
  have hr := B.returns
  have hts : ∀ w ∈ wq, w.before _ s = true := fun w h => atoms_spec (ws := wz yX9_loses cX9_loses 2 (some .int)) B.pre w (List.mem_cons_of_mem _ h)
  have hown : s.vm.findClass RX9 = some m.cls := findClass_of_methodNamed B.named
  have hlocks := B.notSynchronized
  obtain ⟨R, hR⟩ : ∃ R : Room, R = ({ frames := 2, cells := 0, slots := 0, locals := 43 } : Room) := ⟨_, rfl⟩
  rw [show (headSpec (wz yX9_loses cX9_loses 2 (some .int)) { frames := 2, cells := 0, slots := 0, locals := 43 }).room = R from hR.symm]
  refine ti_mi hx hb hr hlocks (fun Q ret => ?_)
  have hl := lv_entry [.ref a0, .int x1] (n := 2) (Nat.le_of_ble_eq_true rfl)
  rw [lg_entry_eq]
  generalize (lg_sl [.ref a0, .int x1] ++ List.replicate (2 - (lg_sl [.ref a0, .int x1]).length) Slot.unset).toArray = ls at hl ⊢
  have hl : lv_has ls 2 [(0, .ref a0), (1, .int x1)] := hl
  refine ti_gen (P := fun H => TI D vwCl (tysOf c0) (RTg ν) Y H) (Y := Y) (ws := [4, 29]) hT (fun H locs hT hS => ?_)
  refine lv_aload_n hx hb dX9_loses_0 rfl (lv_at hl 0 rfl) ?_
  refine lv_iload_n hx hb dX9_loses_1 rfl (lv_at hl 1 rfl) ?_
  refine lv_i2l hx hb dX9_loses_2 rfl ?_
  refine lv_topl (fun v2 e2 => ?_)
  have hv2 : jv v2 (-2147483648) 2147483647 := by rw [e2]; exact jv_i hx1
  have t2 : v2.toInt = x1.toInt := by rw [e2]; exact jv_e _
  refine ti_calli (va_runV (As := [.long v2]) (rest := []) ⟨hx, hb, hml, hown, hts⟩ (t_X9_isPerson l hT ha0 (jv_w hv2 (by decide))) (cwV 1 hts (good_V kw_476 kw_477 kw_478 kw_2 kw_479) rfl rfl rfl (by decide +kernel) ⟨by rw [hR]; decide, by rw [hR]; decide⟩) (ti_preV hK hT ha0 rfl rfl) rfl rfl hl.1 rfl (lv_room (Nat.le_of_ble_eq_true rfl)) dX9_loses_3 ⟨Nat.zero_le _, Nat.zero_le _⟩) hS (pW_sub rfl) (fun v3 H1 locs hB hS _ hk3 => ?_)
  obtain ⟨hH, hv3, hp3⟩ := hB
  rw [hH] at hS ⊢
  refine lv_if_ne (tgt := 12) hx hb dX9_loses_6 (by decide) (fun c6 => ?_) (fun c6 => ?_)
  · skip
    have kl0 : (0 : Int32).toInt = 0 := by decide
    have f6 := i_ne c6
    have hv3_6l : iv v3 1 1 := iv_nel hv3 (iv_c (x := (0 : Int32)) (k := 0) (by decide)) c6 (by decide)
    have hv2_6p : jv v2 0 7 := by have b0a := (hv2).1; have b0b := (hv2).2; exact ⟨by omega, by omega⟩
    have hx1_6p : iv x1 0 7 := by have := t2; have b0a := (hv2_6p).1; have b0b := (hv2_6p).2; have b1a := (hx1).1; have b1b := (hx1).2; exact ⟨by omega, by omega⟩
    refine lv_aload_n hx hb dX9_loses_12 rfl (lv_at hl 0 rfl) ?_
    refine ti_callv (va_runV (As := []) (rest := []) ⟨hx, hb, hml, hown, hts⟩ (t_X9_lookNow l hT ha0) (cwV 0 hts (good_V kw_571 kw_572 kw_573 kw_2 kw_574) rfl rfl rfl (by decide +kernel) ⟨by rw [hR]; decide, by rw [hR]; decide⟩) (ti_preV hK hT ha0 rfl rfl) rfl rfl hl.1 rfl (lv_room (Nat.le_of_ble_eq_true rfl)) dX9_loses_13 ⟨Nat.zero_le _, Nat.zero_le _⟩) hS (pW_sub rfl) (fun H locs hB hS _ hk13 => ?_)
    have hT := hB
    refine lv_aload_n hx hb dX9_loses_16 rfl (lv_at hl 0 rfl) ?_
    refine ti_getr hx hb hts inlX9 hown hK hT ha0 rfl rfl rfl 6 (by decide) (hts _ kw_30) (fun _ h9 => h9) rfl dX9_loses_17 (fun v17 hv17 hm17 => ?_)
    refine lv_iload_n hx hb dX9_loses_20 rfl (lv_at hl 1 rfl) ?_
    refine ti_calli (va_runV (As := [.int x1]) (rest := []) ⟨hx, hb, hml, hown, hts⟩ (t_X4_lossOf l hT hv17 (iv_w hx1_6p (by decide))) (cwV 1 hts (good_V kw_637 kw_638 kw_639 kw_29 kw_640) rfl rfl rfl (by decide +kernel) ⟨by rw [hR]; decide, by rw [hR]; decide⟩) (ti_preV hK hT hv17 rfl rfl) rfl rfl hl.1 rfl (lv_room (Nat.le_of_ble_eq_true rfl)) dX9_loses_21 ⟨Nat.zero_le _, Nat.zero_le _⟩) hS (pW_sub rfl) (fun v21 H1 locs hB hS _ hk21 => ?_)
    have hH := hB
    rw [hH] at hS ⊢
    exact ret _ _ _ _ _ dX9_loses_24 (hT) hS
  · skip
    have kl0 : (0 : Int32).toInt = 0 := by decide
    have f6 := i_eq c6
    have hv3_6l : iv v3 0 0 := iv_eql hv3 (iv_c (x := (0 : Int32)) (k := 0) (by decide)) c6 (by decide)
    refine lv_bipush (v := (-2)) hx hb dX9_loses_9 (by decide) ?_
    exact ret _ _ _ _ _ dX9_loses_11 (hT) hS
set_option maxHeartbeats 4000000 in
set_option maxRecDepth 100000 in
theorem t_X9_stroke (l : Launch) {D : va_G} {c0 : Nat → ClassId} {Y : Nat → Option Nat} {ν : Nat → Nat} {H : Heap} (hT : TI D vwCl (tysOf c0) (RTg ν) Y H) {a0 : Nat} (ha0 : Y a0 = some 9) : Met l yX9_stroke (wz yX9_stroke cX9_stroke 1 (some .int)) { frames := 4, cells := 0, slots := 0, locals := 105 } (TP D vwCl (tysOf c0) H [.ref a0]) (TQi (fun x H' => TI D vwCl (tysOf c0) (RTg ν) Y H') Y [1, 3, 4, 7, 29]) 0 0 (pW Y [1, 3, 4, 7, 29]) := by
  refine Met.ofW (cc := cX9_stroke) (maxL := 1) (ret := (some .int)) (by decide) rfl ?_
  intro p e s m args below meth c s₁ B hml hv
  obtain ⟨rfl, rfl, hK⟩ := hv
  have hx := B.exec
  have hb := B.bytes
  have hr := B.returns
  have hts : ∀ w ∈ wq, w.before _ s = true := fun w h => atoms_spec (ws := wz yX9_stroke cX9_stroke 1 (some .int)) B.pre w (List.mem_cons_of_mem _ h)
  have hown : s.vm.findClass RX9 = some m.cls := findClass_of_methodNamed B.named
  have hlocks := B.notSynchronized
  obtain ⟨R, hR⟩ : ∃ R : Room, R = ({ frames := 4, cells := 0, slots := 0, locals := 105 } : Room) := ⟨_, rfl⟩
  rw [show (headSpec (wz yX9_stroke cX9_stroke 1 (some .int)) { frames := 4, cells := 0, slots := 0, locals := 105 }).room = R from hR.symm]
  refine ti_mi hx hb hr hlocks (fun Q ret => ?_)
  have hl := lv_entry [.ref a0] (n := 1) (Nat.le_of_ble_eq_true rfl)
  rw [lg_entry_eq]
  generalize (lg_sl [.ref a0] ++ List.replicate (1 - (lg_sl [.ref a0]).length) Slot.unset).toArray = ls at hl ⊢
  have hl : lv_has ls 1 [(0, .ref a0)] := hl
  refine ti_gen (P := fun H => TI D vwCl (tysOf c0) (RTg ν) Y H) (Y := Y) (ws := [1, 3, 4, 7, 29]) hT (fun H locs hT hS => ?_)
  refine lv_aload_n hx hb dX9_stroke_0 rfl (lv_at hl 0 rfl) ?_
  refine ti_getr hx hb hts inlX9 hown hK hT ha0 rfl rfl rfl 1 (by decide) (hts _ kw_20) (fun _ h9 => h9) rfl dX9_stroke_1 (fun v1 hv1 hm1 => ?_)
  refine ti_geti hx hb hts inlX7 hown hK hT hv1 rfl rfl rfl 1 (by decide) (hts _ kw_480) (fun _ h9 => h9) rfl dX9_stroke_4 (fun v4 hv4 hm4 => ?_)
  refine lv_if_ne (tgt := 13) hx hb dX9_stroke_7 (by decide) (fun c7 => ?_) (fun c7 => ?_)
  · skip
    have kl0 : (0 : Int32).toInt = 0 := by decide
    have f7 := i_ne c7
    have hv4_7l : iv v4 1 8 := iv_nel hv4 (iv_c (x := (0 : Int32)) (k := 0) (by decide)) c7 (by decide)
    refine lv_aload_n hx hb dX9_stroke_13 rfl (lv_at hl 0 rfl) ?_
    refine ti_getE (ci := 9) (v := .ref v1) hx hb hts inlX9 hown hK hm1 rfl (by decide) (hts _ kw_20) (fun _ h9 => h9) dX9_stroke_14 ?_
    refine lv_aload_n hx hb dX9_stroke_17 rfl (lv_at hl 0 rfl) ?_
    refine ti_getr hx hb hts inlX9 hown hK hT ha0 rfl rfl rfl 6 (by decide) (hts _ kw_30) (fun _ h9 => h9) rfl dX9_stroke_18 (fun v18 hv18 hm18 => ?_)
    refine ti_callv (va_runV (As := [.ref v18]) (rest := []) ⟨hx, hb, hml, hown, hts⟩ (t_X7_strikeOn l hT hv1 hv18) (cwV 1 hts (good_V kw_661 kw_662 kw_663 kw_19 kw_664) rfl rfl rfl (by decide +kernel) ⟨by rw [hR]; decide, by rw [hR]; decide⟩) (ti_preV hK hT hv1 rfl rfl) rfl rfl hl.1 rfl (lv_room (Nat.le_of_ble_eq_true rfl)) dX9_stroke_21 ⟨Nat.zero_le _, Nat.zero_le _⟩) hS (pW_sub rfl) (fun H locs hB hS _ hk21 => ?_)
    have hT := hB
    refine lv_aload_n hx hb dX9_stroke_24 rfl (lv_at hl 0 rfl) ?_
    refine ti_getE (ci := 9) (v := .ref v18) hx hb hts inlX9 hown hK (hm18.call hk21 (pW_not ha0 rfl)) rfl (by decide) (hts _ kw_30) (fun _ h9 => h9) dX9_stroke_25 ?_
    refine ti_geti hx hb hts inlX4 hown hK hT hv18 rfl rfl rfl 10 (by decide) (hts _ kw_660) (fun _ h9 => h9) rfl dX9_stroke_28 (fun v28 hv28 hm28 => ?_)
    exact ret _ _ _ _ _ dX9_stroke_31 (hT) hS
  · skip
    have kl0 : (0 : Int32).toInt = 0 := by decide
    have f7 := i_eq c7
    have hv4_7l : iv v4 0 0 := iv_eql hv4 (iv_c (x := (0 : Int32)) (k := 0) (by decide)) c7 (by decide)
    refine lv_bipush (v := (-2)) hx hb dX9_stroke_10 (by decide) ?_
    exact ret _ _ _ _ _ dX9_stroke_12 (hT) hS
set_option maxHeartbeats 4000000 in
set_option maxRecDepth 100000 in
theorem t_X9_whyNot (l : Launch) {D : va_G} {c0 : Nat → ClassId} {Y : Nat → Option Nat} {ν : Nat → Nat} {H : Heap} (hT : TI D vwCl (tysOf c0) (RTg ν) Y H) {a0 : Nat} (ha0 : Y a0 = some 9) {a1 : Nat} (ha1 : Y a1 = some 7) {x2 : Int64} (hx2 : jv x2 (-9223372036854775808) 9223372036854775807) {x3 : Int64} (hx3 : jv x3 (-9223372036854775808) 9223372036854775807) {x4 : Int64} (hx4 : jv x4 (-9223372036854775808) 9223372036854775807) {x5 : Int64} (hx5 : jv x5 (-9223372036854775808) 9223372036854775807) {x6 : Int64} (hx6 : jv x6 (-9223372036854775808) 9223372036854775807) : Met l yX9_whyNot (wz yX9_whyNot cX9_whyNot 13 (some .int)) { frames := 2, cells := 0, slots := 0, locals := 83 } (TP D vwCl (tysOf c0) H [.ref a0, .ref a1, .long x2, .long x3, .long x4, .long x5, .long x6]) (TQi (fun x H' => H' = H ∧ iv x (-5) 0 ∧ ((x.toInt = 0 → (0 ≤ x2.toInt ∧ x2.toInt ≤ 7) ∧ (0 ≤ x5.toInt ∧ x5.toInt ≤ 100000) ∧ ((-1) ≤ x6.toInt ∧ x6.toInt ≤ 7) ∧ (1 ≤ x5.toInt → 0 ≤ x6.toInt)))) Y []) 0 0 (pW Y []) := by
  refine Met.ofW (cc := cX9_whyNot) (maxL := 13) (ret := (some .int)) (by decide) rfl ?_
  intro p e s m args below meth c s₁ B hml hv
  obtain ⟨rfl, rfl, hK⟩ := hv
  have hx := B.exec
  have hb := B.bytes
  have hr := B.returns
  have hts : ∀ w ∈ wq, w.before _ s = true := fun w h => atoms_spec (ws := wz yX9_whyNot cX9_whyNot 13 (some .int)) B.pre w (List.mem_cons_of_mem _ h)
  have hown : s.vm.findClass RX9 = some m.cls := findClass_of_methodNamed B.named
  have hlocks := B.notSynchronized
  obtain ⟨R, hR⟩ : ∃ R : Room, R = ({ frames := 2, cells := 0, slots := 0, locals := 83 } : Room) := ⟨_, rfl⟩
  rw [show (headSpec (wz yX9_whyNot cX9_whyNot 13 (some .int)) { frames := 2, cells := 0, slots := 0, locals := 83 }).room = R from hR.symm]
  refine ti_mi hx hb hr hlocks (fun Q ret => ?_)
  have hl := lv_entry [.ref a0, .ref a1, .long x2, .long x3, .long x4, .long x5, .long x6] (n := 13) (Nat.le_of_ble_eq_true rfl)
  rw [lg_entry_eq]
  generalize (lg_sl [.ref a0, .ref a1, .long x2, .long x3, .long x4, .long x5, .long x6] ++ List.replicate (13 - (lg_sl [.ref a0, .ref a1, .long x2, .long x3, .long x4, .long x5, .long x6]).length) Slot.unset).toArray = ls at hl ⊢
  have hl : lv_has ls 13 [(0, .ref a0), (1, .ref a1), (2, .long x2), (4, .long x3), (6, .long x4), (8, .long x5), (10, .long x6)] := hl
  have hS : va_S (pW Y []) s.heap s.heap [] := va_S.rf
  refine lv_aload_n hx hb dX9_whyNot_0 rfl (lv_at hl 0 rfl) ?_
  refine lv_lload_n hx hb dX9_whyNot_1 rfl (lv_at hl 2 rfl) ?_
  refine ti_calli (va_runV (As := [.long x2]) (rest := []) ⟨hx, hb, hml, hown, hts⟩ (t_X9_isPerson l hT ha0 hx2) (cwV 1 hts (good_V kw_476 kw_477 kw_478 kw_2 kw_479) rfl rfl rfl (by decide +kernel) ⟨by rw [hR]; decide, by rw [hR]; decide⟩) (ti_preV hK hT ha0 rfl rfl) rfl rfl hl.1 rfl (lv_room (Nat.le_of_ble_eq_true rfl)) dX9_whyNot_2 ⟨Nat.zero_le _, Nat.zero_le _⟩) hS (pW_sub rfl) (fun v2 H1 locs hB hS _ hk2 => ?_)
  obtain ⟨hH, hv2, hp2⟩ := hB
  rw [hH] at hS ⊢
  refine lv_if_eq (tgt := 36) hx hb dX9_whyNot_5 (by decide) (fun c5 => ?_) (fun c5 => ?_)
  · skip
    have kl0 : (0 : Int32).toInt = 0 := by decide
    have f5 := i_eq c5
    have hv2_5l : iv v2 0 0 := iv_eql hv2 (iv_c (x := (0 : Int32)) (k := 0) (by decide)) c5 (by decide)
    refine lv_bipush (v := (-2)) hx hb dX9_whyNot_36 (by decide) ?_
    have klm2 : (-2 : Int32).toInt = (-2) := by decide
    exact ret _ _ _ _ _ dX9_whyNot_38 (⟨rfl, iv_w (iv_c (x := (-2 : Int32)) (k := (-2)) (by decide)) (by decide), by have b0a := (hx2).1; have b0b := (hx2).2; have b1a := (hx3).1; have b1b := (hx3).2; have b2a := (hx4).1; have b2b := (hx4).2; have b3a := (hx5).1; have b3b := (hx5).2; have b4a := (hx6).1; have b4b := (hx6).2; have b5a := (hv2_5l).1; have b5b := (hv2_5l).2; omega⟩) hS
  · skip
    have kl0 : (0 : Int32).toInt = 0 := by decide
    have f5 := i_ne c5
    have hv2_5l : iv v2 1 1 := iv_nel hv2 (iv_c (x := (0 : Int32)) (k := 0) (by decide)) c5 (by decide)
    have hx2_5p : jv x2 0 7 := by have b0a := (hx2).1; have b0b := (hx2).2; exact ⟨by omega, by omega⟩
    refine lv_lload hx hb dX9_whyNot_8 (lv_at hl 3 rfl) ?_
    refine lv_lconst (v := 0) hx hb dX9_whyNot_10 (by decide) ?_
    have kj0 : (0 : Int64).toInt = 0 := by decide
    refine W.lcmp hx hb dX9_whyNot_11 ?_
    refine lv_if_lt (tgt := 36) hx hb dX9_whyNot_12 (by decide) (fun c12 => ?_) (fun c12 => ?_)
    · skip
      have f12 := jc_lt c12
      have hx3_12a : jv x3 (-9223372036854775808) (-1) := by have b0a := (hx3).1; have b0b := (hx3).2; have b1a := ((jv_c (x := (0 : Int64)) (k := 0) (by decide))).1; have b1b := ((jv_c (x := (0 : Int64)) (k := 0) (by decide))).2; exact ⟨by omega, by omega⟩
      refine lv_bipush (v := (-2)) hx hb dX9_whyNot_36 (by decide) ?_
      have klm2 : (-2 : Int32).toInt = (-2) := by decide
      exact ret _ _ _ _ _ dX9_whyNot_38 (⟨rfl, iv_w (iv_c (x := (-2 : Int32)) (k := (-2)) (by decide)) (by decide), by have b0a := (hx2_5p).1; have b0b := (hx2_5p).2; have b1a := (hx3_12a).1; have b1b := (hx3_12a).2; have b2a := (hx4).1; have b2b := (hx4).2; have b3a := (hx5).1; have b3b := (hx5).2; have b4a := (hx6).1; have b4b := (hx6).2; have b5a := (hv2_5l).1; have b5b := (hv2_5l).2; omega⟩) hS
    · skip
      have f12 := jc_nlt c12
      have hx3_12a : jv x3 0 9223372036854775807 := by have b0a := (hx3).1; have b0b := (hx3).2; have b1a := ((jv_c (x := (0 : Int64)) (k := 0) (by decide))).1; have b1b := ((jv_c (x := (0 : Int64)) (k := 0) (by decide))).2; exact ⟨by omega, by omega⟩
      refine lv_lload hx hb dX9_whyNot_15 (lv_at hl 3 rfl) ?_
      refine lv_lconst (v := 1) hx hb dX9_whyNot_17 (by decide) ?_
      have kj1 : (1 : Int64).toInt = 1 := by decide
      refine W.lcmp hx hb dX9_whyNot_18 ?_
      refine lv_if_gt (tgt := 36) hx hb dX9_whyNot_19 (by decide) (fun c19 => ?_) (fun c19 => ?_)
      · skip
        have f19 := jc_gt c19
        have hx3_19a : jv x3 2 9223372036854775807 := by have b0a := (hx3_12a).1; have b0b := (hx3_12a).2; have b1a := ((jv_c (x := (1 : Int64)) (k := 1) (by decide))).1; have b1b := ((jv_c (x := (1 : Int64)) (k := 1) (by decide))).2; exact ⟨by omega, by omega⟩
        refine lv_bipush (v := (-2)) hx hb dX9_whyNot_36 (by decide) ?_
        have klm2 : (-2 : Int32).toInt = (-2) := by decide
        exact ret _ _ _ _ _ dX9_whyNot_38 (⟨rfl, iv_w (iv_c (x := (-2 : Int32)) (k := (-2)) (by decide)) (by decide), by have b0a := (hx2_5p).1; have b0b := (hx2_5p).2; have b1a := (hx3_19a).1; have b1b := (hx3_19a).2; have b2a := (hx4).1; have b2b := (hx4).2; have b3a := (hx5).1; have b3b := (hx5).2; have b4a := (hx6).1; have b4b := (hx6).2; have b5a := (hv2_5l).1; have b5b := (hv2_5l).2; omega⟩) hS
      · skip
        have f19 := jc_ngt c19
        have hx3_19a : jv x3 0 1 := by have b0a := (hx3_12a).1; have b0b := (hx3_12a).2; have b1a := ((jv_c (x := (1 : Int64)) (k := 1) (by decide))).1; have b1b := ((jv_c (x := (1 : Int64)) (k := 1) (by decide))).2; exact ⟨by omega, by omega⟩
        refine lv_lload hx hb dX9_whyNot_22 (lv_at hl 4 rfl) ?_
        refine lv_lconst (v := 0) hx hb dX9_whyNot_24 (by decide) ?_
        refine W.lcmp hx hb dX9_whyNot_25 ?_
        refine lv_if_lt (tgt := 36) hx hb dX9_whyNot_26 (by decide) (fun c26 => ?_) (fun c26 => ?_)
        · skip
          have f26 := jc_lt c26
          have hx4_26a : jv x4 (-9223372036854775808) (-1) := by have b0a := (hx4).1; have b0b := (hx4).2; have b1a := ((jv_c (x := (0 : Int64)) (k := 0) (by decide))).1; have b1b := ((jv_c (x := (0 : Int64)) (k := 0) (by decide))).2; exact ⟨by omega, by omega⟩
          refine lv_bipush (v := (-2)) hx hb dX9_whyNot_36 (by decide) ?_
          have klm2 : (-2 : Int32).toInt = (-2) := by decide
          exact ret _ _ _ _ _ dX9_whyNot_38 (⟨rfl, iv_w (iv_c (x := (-2 : Int32)) (k := (-2)) (by decide)) (by decide), by have b0a := (hx2_5p).1; have b0b := (hx2_5p).2; have b1a := (hx3_19a).1; have b1b := (hx3_19a).2; have b2a := (hx4_26a).1; have b2b := (hx4_26a).2; have b3a := (hx5).1; have b3b := (hx5).2; have b4a := (hx6).1; have b4b := (hx6).2; have b5a := (hv2_5l).1; have b5b := (hv2_5l).2; omega⟩) hS
        · skip
          have f26 := jc_nlt c26
          have hx4_26a : jv x4 0 9223372036854775807 := by have b0a := (hx4).1; have b0b := (hx4).2; have b1a := ((jv_c (x := (0 : Int64)) (k := 0) (by decide))).1; have b1b := ((jv_c (x := (0 : Int64)) (k := 0) (by decide))).2; exact ⟨by omega, by omega⟩
          refine lv_lload hx hb dX9_whyNot_29 (lv_at hl 5 rfl) ?_
          refine lv_lconst (v := 0) hx hb dX9_whyNot_31 (by decide) ?_
          refine W.lcmp hx hb dX9_whyNot_32 ?_
          refine lv_if_ge (tgt := 39) hx hb dX9_whyNot_33 (by decide) (fun c33 => ?_) (fun c33 => ?_)
          · skip
            have f33 := jc_ge c33
            have hx5_33a : jv x5 0 9223372036854775807 := by have b0a := (hx5).1; have b0b := (hx5).2; have b1a := ((jv_c (x := (0 : Int64)) (k := 0) (by decide))).1; have b1b := ((jv_c (x := (0 : Int64)) (k := 0) (by decide))).2; exact ⟨by omega, by omega⟩
            refine lv_lload hx hb dX9_whyNot_39 (lv_at hl 5 rfl) ?_
            refine lv_lconst (v := 0) hx hb dX9_whyNot_41 (by decide) ?_
            refine W.lcmp hx hb dX9_whyNot_42 ?_
            have J77 : ∀  (locs : List Loc) (ls : Array Slot), (-1 ≤ x6.toInt ∧ x6.toInt ≤ 7) → (1 ≤ x5.toInt → 0 ≤ x6.toInt) → va_S (pW Y []) s.heap s.heap locs → lv_has ls 13 [(0, .ref a0), (1, .ref a1), (2, .long x2), (4, .long x3), (6, .long x4), (8, .long x5), (10, .long x6)] → W p l e R s m ([.ref a0, .ref a1, .long x2, .long x3, .long x4, .long x5, .long x6] : List Value).toArray below meth c s.heap locs 0 0 Q (F0 m 77 ls []) := by
              intro  locs ls hT77_0 hT77_1 hS hl
              refine lv_aload_n hx hb dX9_whyNot_77 rfl (lv_at hl 1 rfl) ?_
              refine lv_lload_n hx hb dX9_whyNot_78 rfl (lv_at hl 2 rfl) ?_
              refine lv_l2i hx hb dX9_whyNot_79 rfl ?_
              refine lv_topi (fun v79 e79 => ?_)
              have s79 : v79.toInt = x2.toInt := by rw [e79]; exact jv_l2i hx2_5p (by decide)
              have hv79 : iv v79 0 7 := by have b0a := (hx2_5p).1; have b0b := (hx2_5p).2; exact ⟨by omega, by omega⟩
              refine lv_lload hx hb dX9_whyNot_80 (lv_at hl 3 rfl) ?_
              refine lv_l2i hx hb dX9_whyNot_82 rfl ?_
              refine lv_topi (fun v82 e82 => ?_)
              have s82 : v82.toInt = x3.toInt := by rw [e82]; exact jv_l2i hx3_19a (by decide)
              have hv82 : iv v82 0 1 := by have b0a := (hx3_19a).1; have b0b := (hx3_19a).2; exact ⟨by omega, by omega⟩
              refine ti_calli (va_runV (As := [.int v79, .int v82]) (rest := []) ⟨hx, hb, hml, hown, hts⟩ (t_X7_hasAfter l hT ha1 (iv_w hv79 (by decide)) (iv_w hv82 (by decide))) (cwV 2 hts (good_V kw_761 kw_762 kw_763 kw_19 kw_764) rfl rfl rfl (by decide +kernel) ⟨by rw [hR]; decide, by rw [hR]; decide⟩) (ti_preV hK hT ha1 rfl rfl) rfl rfl hl.1 rfl (lv_room (Nat.le_of_ble_eq_true rfl)) dX9_whyNot_83 ⟨Nat.zero_le _, Nat.zero_le _⟩) hS (pW_sub rfl) (fun v83 H1 locs hB hS _ hk83 => ?_)
              obtain ⟨hH, hv83⟩ := hB
              rw [hH] at hS ⊢
              refine lv_istore (lv' := [(12, .int v83), (0, .ref a0), (1, .ref a1), (2, .long x2), (4, .long x3), (6, .long x4), (8, .long x5), (10, .long x6)]) hx hb dX9_whyNot_86 hl (by decide) rfl (fun ls hl => ?_)
              refine lv_lload hx hb dX9_whyNot_88 (lv_at hl 5 rfl) ?_
              refine lv_iload hx hb dX9_whyNot_90 (lv_at hl 0 rfl) ?_
              refine lv_i2l hx hb dX9_whyNot_92 rfl ?_
              refine lv_topl (fun v92 e92 => ?_)
              have hv92 : jv v92 (-2147483648) 100000 := by rw [e92]; exact jv_i hv83
              have t92 : v92.toInt = v83.toInt := by rw [e92]; exact jv_e _
              refine W.lcmp hx hb dX9_whyNot_93 ?_
              have J109 : ∀  (locs : List Loc) (ls : Array Slot), va_S (pW Y []) s.heap s.heap locs → lv_has ls 13 [(0, .ref a0), (1, .ref a1), (2, .long x2), (4, .long x3), (6, .long x4), (8, .long x5), (10, .long x6), (12, .int v83)] → W p l e R s m ([.ref a0, .ref a1, .long x2, .long x3, .long x4, .long x5, .long x6] : List Value).toArray below meth c s.heap locs 0 0 Q (F0 m 109 ls []) := by
                intro  locs ls  hS hl
                refine lv_bipush (v := (-5)) hx hb dX9_whyNot_109 (by decide) ?_
                refine lv_goto (tgt := 115) hx hb dX9_whyNot_111 (by decide) ?_
                have klm5 : (-5 : Int32).toInt = (-5) := by decide
                exact ret _ _ _ _ _ dX9_whyNot_115 (⟨rfl, iv_w (iv_c (x := (-5 : Int32)) (k := (-5)) (by decide)) (by decide), by have b0a := (hx2_5p).1; have b0b := (hx2_5p).2; have b1a := (hx3_19a).1; have b1b := (hx3_19a).2; have b2a := (hx4_26a).1; have b2b := (hx4_26a).2; have b3a := (hx5_33a).1; have b3b := (hx5_33a).2; have b4a := (hx6).1; have b4b := (hx6).2; have b5a := (hv2_5l).1; have b5b := (hv2_5l).2; have b6a := (hv79).1; have b6b := (hv79).2; have b7a := (hv82).1; have b7b := (hv82).2; have b8a := (hv83).1; have b8b := (hv83).2; have b9a := (hv92).1; have b9b := (hv92).2; omega⟩) hS
              refine lv_if_gt (tgt := 109) hx hb dX9_whyNot_94 (by decide) (fun c94 => ?_) (fun c94 => ?_)
              · skip
                have f94 := jc_gt c94
                exact J109  _ _    hS (lv_sub hl [1, 2, 3, 4, 5, 6, 7, 0] rfl)
              · skip
                have f94 := jc_ngt c94
                have hx4_94a : jv x4 0 100000 := by have b0a := (hx4_26a).1; have b0b := (hx4_26a).2; have b1a := (hv92).1; have b1b := (hv92).2; exact ⟨by omega, by omega⟩
                have hv92_94b : jv v92 0 100000 := by have b0a := (hx4_94a).1; have b0b := (hx4_94a).2; have b1a := (hv92).1; have b1b := (hv92).2; exact ⟨by omega, by omega⟩
                have hv83_94b : iv v83 0 100000 := by have := t92; have b0a := (hv92_94b).1; have b0b := (hv92_94b).2; have b1a := (hv83).1; have b1b := (hv83).2; exact ⟨by omega, by omega⟩
                refine lv_lload hx hb dX9_whyNot_97 (lv_at hl 6 rfl) ?_
                refine lv_iload hx hb dX9_whyNot_99 (lv_at hl 0 rfl) ?_
                refine lv_i2l hx hb dX9_whyNot_101 rfl ?_
                refine lv_topl (fun v101 e101 => ?_)
                have hv101 : jv v101 0 100000 := by rw [e101]; exact jv_i hv83_94b
                have t101 : v101.toInt = v83.toInt := by rw [e101]; exact jv_e _
                refine lv_lload hx hb dX9_whyNot_102 (lv_at hl 5 rfl) ?_
                refine lv_lsub hx hb dX9_whyNot_104 ?_
                refine lv_topl (fun v104 e104 => ?_)
                have s104 : v104.toInt = v101.toInt - x4.toInt := by rw [e104]; exact jv_subE hv101 hx4_94a (by decide)
                have hv104 : jv v104 (-100000) 100000 := by have b0a := (hv101).1; have b0b := (hv101).2; have b1a := (hx4_94a).1; have b1b := (hx4_94a).2; exact ⟨by omega, by omega⟩
                refine W.lcmp hx hb dX9_whyNot_105 ?_
                refine lv_if_le (tgt := 114) hx hb dX9_whyNot_106 (by decide) (fun c106 => ?_) (fun c106 => ?_)
                · skip
                  have f106 := jc_le c106
                  have hx5_106a : jv x5 0 100000 := by have b0a := (hx5_33a).1; have b0b := (hx5_33a).2; have b1a := (hv104).1; have b1b := (hv104).2; exact ⟨by omega, by omega⟩
                  have hv104_106b : jv v104 0 100000 := by have b0a := (hx5_106a).1; have b0b := (hx5_106a).2; have b1a := (hv104).1; have b1b := (hv104).2; exact ⟨by omega, by omega⟩
                  refine lv_iconst (v := 0) hx hb dX9_whyNot_114 (by decide) ?_
                  exact ret _ _ _ _ _ dX9_whyNot_115 (⟨rfl, iv_w (iv_c (x := (0 : Int32)) (k := 0) (by decide)) (by decide), by have b0a := (hx2_5p).1; have b0b := (hx2_5p).2; have b1a := (hx3_19a).1; have b1b := (hx3_19a).2; have b2a := (hx4_94a).1; have b2b := (hx4_94a).2; have b3a := (hx5_106a).1; have b3b := (hx5_106a).2; have b4a := (hx6).1; have b4b := (hx6).2; have b5a := (hv2_5l).1; have b5b := (hv2_5l).2; have b6a := (hv79).1; have b6b := (hv79).2; have b7a := (hv82).1; have b7b := (hv82).2; have b8a := (hv83_94b).1; have b8b := (hv83_94b).2; have b9a := (hv92_94b).1; have b9b := (hv92_94b).2; have b10a := (hv101).1; have b10b := (hv101).2; have b11a := (hv104_106b).1; have b11b := (hv104_106b).2; omega⟩) hS
                · skip
                  have f106 := jc_nle c106
                  exact J109  _ _    hS (lv_sub hl [1, 2, 3, 4, 5, 6, 7, 0] rfl)
            refine lv_if_ne (tgt := 58) hx hb dX9_whyNot_43 (by decide) (fun c43 => ?_) (fun c43 => ?_)
            · skip
              have f43 := jc_ne c43
              refine lv_aload_n hx hb dX9_whyNot_58 rfl (lv_at hl 0 rfl) ?_
              refine lv_lload hx hb dX9_whyNot_59 (lv_at hl 6 rfl) ?_
              refine ti_calli (va_runV (As := [.long x6]) (rest := []) ⟨hx, hb, hml, hown, hts⟩ (t_X9_isPerson l hT ha0 hx6) (cwV 1 hts (good_V kw_476 kw_477 kw_478 kw_2 kw_479) rfl rfl rfl (by decide +kernel) ⟨by rw [hR]; decide, by rw [hR]; decide⟩) (ti_preV hK hT ha0 rfl rfl) rfl rfl hl.1 rfl (lv_room (Nat.le_of_ble_eq_true rfl)) dX9_whyNot_61 ⟨Nat.zero_le _, Nat.zero_le _⟩) hS (pW_sub rfl) (fun v61 H1 locs hB hS _ hk61 => ?_)
              obtain ⟨hH, hv61, hp61⟩ := hB
              rw [hH] at hS ⊢
              refine lv_if_eq (tgt := 74) hx hb dX9_whyNot_64 (by decide) (fun c64 => ?_) (fun c64 => ?_)
              · skip
                have f64 := i_eq c64
                have hv61_64l : iv v61 0 0 := iv_eql hv61 (iv_c (x := (0 : Int32)) (k := 0) (by decide)) c64 (by decide)
                refine lv_bipush (v := (-2)) hx hb dX9_whyNot_74 (by decide) ?_
                have klm2 : (-2 : Int32).toInt = (-2) := by decide
                exact ret _ _ _ _ _ dX9_whyNot_76 (⟨rfl, iv_w (iv_c (x := (-2 : Int32)) (k := (-2)) (by decide)) (by decide), by have b0a := (hx2_5p).1; have b0b := (hx2_5p).2; have b1a := (hx3_19a).1; have b1b := (hx3_19a).2; have b2a := (hx4_26a).1; have b2b := (hx4_26a).2; have b3a := (hx5_33a).1; have b3b := (hx5_33a).2; have b4a := (hx6).1; have b4b := (hx6).2; have b5a := (hv2_5l).1; have b5b := (hv2_5l).2; have b6a := (hv61_64l).1; have b6b := (hv61_64l).2; omega⟩) hS
              · skip
                have f64 := i_ne c64
                have hv61_64l : iv v61 1 1 := iv_nel hv61 (iv_c (x := (0 : Int32)) (k := 0) (by decide)) c64 (by decide)
                have hx6_64p : jv x6 0 7 := by have b0a := (hx6).1; have b0b := (hx6).2; exact ⟨by omega, by omega⟩
                refine lv_lload hx hb dX9_whyNot_67 (lv_at hl 6 rfl) ?_
                refine lv_lload_n hx hb dX9_whyNot_69 rfl (lv_at hl 2 rfl) ?_
                refine W.lcmp hx hb dX9_whyNot_70 ?_
                refine lv_if_ne (tgt := 77) hx hb dX9_whyNot_71 (by decide) (fun c71 => ?_) (fun c71 => ?_)
                · skip
                  have f71 := jc_ne c71
                  exact J77  _ _  (by have b0a := (hx2_5p).1; have b0b := (hx2_5p).2; have b1a := (hx3_19a).1; have b1b := (hx3_19a).2; have b2a := (hx4_26a).1; have b2b := (hx4_26a).2; have b3a := (hx5_33a).1; have b3b := (hx5_33a).2; have b4a := (hx6_64p).1; have b4b := (hx6_64p).2; have b5a := (hv2_5l).1; have b5b := (hv2_5l).2; have b6a := (hv61_64l).1; have b6b := (hv61_64l).2; omega) (by have b0a := (hx2_5p).1; have b0b := (hx2_5p).2; have b1a := (hx3_19a).1; have b1b := (hx3_19a).2; have b2a := (hx4_26a).1; have b2b := (hx4_26a).2; have b3a := (hx5_33a).1; have b3b := (hx5_33a).2; have b4a := (hx6_64p).1; have b4b := (hx6_64p).2; have b5a := (hv2_5l).1; have b5b := (hv2_5l).2; have b6a := (hv61_64l).1; have b6b := (hv61_64l).2; omega)  hS (lv_sub hl [0, 1, 2, 3, 4, 5, 6] rfl)
                · skip
                  have f71 := jc_eq c71
                  refine lv_bipush (v := (-2)) hx hb dX9_whyNot_74 (by decide) ?_
                  have klm2 : (-2 : Int32).toInt = (-2) := by decide
                  exact ret _ _ _ _ _ dX9_whyNot_76 (⟨rfl, iv_w (iv_c (x := (-2 : Int32)) (k := (-2)) (by decide)) (by decide), by have b0a := (hx2_5p).1; have b0b := (hx2_5p).2; have b1a := (hx3_19a).1; have b1b := (hx3_19a).2; have b2a := (hx4_26a).1; have b2b := (hx4_26a).2; have b3a := (hx5_33a).1; have b3b := (hx5_33a).2; have b4a := (hx6_64p).1; have b4b := (hx6_64p).2; have b5a := (hv2_5l).1; have b5b := (hv2_5l).2; have b6a := (hv61_64l).1; have b6b := (hv61_64l).2; omega⟩) hS
            · skip
              have f43 := jc_eq c43
              have hx5_43a : jv x5 0 0 := by have b0a := (hx5_33a).1; have b0b := (hx5_33a).2; have b1a := ((jv_c (x := (0 : Int64)) (k := 0) (by decide))).1; have b1b := ((jv_c (x := (0 : Int64)) (k := 0) (by decide))).2; exact ⟨by omega, by omega⟩
              refine lv_lload hx hb dX9_whyNot_46 (lv_at hl 6 rfl) ?_
              refine lv_ldc2 (v := -1) hx hb hown (hts _ kw_760) dX9_whyNot_48 ?_
              have kjm1 : (-1 : Int64).toInt = -1 := by decide
              refine W.lcmp hx hb dX9_whyNot_51 ?_
              refine lv_if_eq (tgt := 77) hx hb dX9_whyNot_52 (by decide) (fun c52 => ?_) (fun c52 => ?_)
              · skip
                have f52 := jc_eq c52
                have hx6_52a : jv x6 (-1) (-1) := by have b0a := (hx6).1; have b0b := (hx6).2; have b1a := ((jv_c (x := (-1 : Int64)) (k := -1) (by decide))).1; have b1b := ((jv_c (x := (-1 : Int64)) (k := -1) (by decide))).2; exact ⟨by omega, by omega⟩
                exact J77  _ _  (by have b0a := (hx2_5p).1; have b0b := (hx2_5p).2; have b1a := (hx3_19a).1; have b1b := (hx3_19a).2; have b2a := (hx4_26a).1; have b2b := (hx4_26a).2; have b3a := (hx5_43a).1; have b3b := (hx5_43a).2; have b4a := (hx6_52a).1; have b4b := (hx6_52a).2; have b5a := (hv2_5l).1; have b5b := (hv2_5l).2; omega) (by have b0a := (hx2_5p).1; have b0b := (hx2_5p).2; have b1a := (hx3_19a).1; have b1b := (hx3_19a).2; have b2a := (hx4_26a).1; have b2b := (hx4_26a).2; have b3a := (hx5_43a).1; have b3b := (hx5_43a).2; have b4a := (hx6_52a).1; have b4b := (hx6_52a).2; have b5a := (hv2_5l).1; have b5b := (hv2_5l).2; omega)  hS (lv_sub hl [0, 1, 2, 3, 4, 5, 6] rfl)
              · skip
                have f52 := jc_ne c52
                refine lv_goto (tgt := 74) hx hb dX9_whyNot_55 (by decide) ?_
                refine lv_bipush (v := (-2)) hx hb dX9_whyNot_74 (by decide) ?_
                have klm2 : (-2 : Int32).toInt = (-2) := by decide
                exact ret _ _ _ _ _ dX9_whyNot_76 (⟨rfl, iv_w (iv_c (x := (-2 : Int32)) (k := (-2)) (by decide)) (by decide), by have b0a := (hx2_5p).1; have b0b := (hx2_5p).2; have b1a := (hx3_19a).1; have b1b := (hx3_19a).2; have b2a := (hx4_26a).1; have b2b := (hx4_26a).2; have b3a := (hx5_43a).1; have b3b := (hx5_43a).2; have b4a := (hx6).1; have b4b := (hx6).2; have b5a := (hv2_5l).1; have b5b := (hv2_5l).2; omega⟩) hS
          · skip
            have f33 := jc_nge c33
            have hx5_33a : jv x5 (-9223372036854775808) (-1) := by have b0a := (hx5).1; have b0b := (hx5).2; have b1a := ((jv_c (x := (0 : Int64)) (k := 0) (by decide))).1; have b1b := ((jv_c (x := (0 : Int64)) (k := 0) (by decide))).2; exact ⟨by omega, by omega⟩
            refine lv_bipush (v := (-2)) hx hb dX9_whyNot_36 (by decide) ?_
            have klm2 : (-2 : Int32).toInt = (-2) := by decide
            exact ret _ _ _ _ _ dX9_whyNot_38 (⟨rfl, iv_w (iv_c (x := (-2 : Int32)) (k := (-2)) (by decide)) (by decide), by have b0a := (hx2_5p).1; have b0b := (hx2_5p).2; have b1a := (hx3_19a).1; have b1b := (hx3_19a).2; have b2a := (hx4_26a).1; have b2b := (hx4_26a).2; have b3a := (hx5_33a).1; have b3b := (hx5_33a).2; have b4a := (hx6).1; have b4b := (hx6).2; have b5a := (hv2_5l).1; have b5b := (hv2_5l).2; omega⟩) hS
set_option maxHeartbeats 4000000 in
set_option maxRecDepth 100000 in
theorem t_X9_act (l : Launch) {D : va_G} {c0 : Nat → ClassId} {Y : Nat → Option Nat} {ν : Nat → Nat} {H : Heap} (hT : TI D vwCl (tysOf c0) (RTg ν) Y H) {a0 : Nat} (ha0 : Y a0 = some 9) {x1 : Int32} (hx1 : iv x1 (-2147483648) 2147483647) {x2 : Int32} (hx2 : iv x2 (-2147483648) 2147483647) {x3 : Int32} (hx3 : iv x3 (-2147483648) 2147483647) {x4 : Int32} (hx4 : iv x4 (-2147483648) 2147483647) {x5 : Int32} (hx5 : iv x5 (-2147483648) 2147483647) : Met l yX9_act (wz yX9_act cX9_act 8 (some .int)) { frames := 3, cells := 0, slots := 0, locals := 115 } (TP D vwCl (tysOf c0) H [.ref a0, .int x1, .int x2, .int x3, .int x4, .int x5]) (TQi (fun x H' => TI D vwCl (tysOf c0) (RTg ν) Y H' ∧ iv x (-2147483648) 100000) Y [3]) 0 0 (pW Y [3]) := by
  refine Met.ofW (cc := cX9_act) (maxL := 8) (ret := (some .int)) (by decide) rfl ?_
  intro p e s m args below meth c s₁ B hml hv
  obtain ⟨rfl, rfl, hK⟩ := hv
  have hx := B.exec
  have hb := B.bytes
  have hr := B.returns
  have hts : ∀ w ∈ wq, w.before _ s = true := fun w h => atoms_spec (ws := wz yX9_act cX9_act 8 (some .int)) B.pre w (List.mem_cons_of_mem _ h)
  have hown : s.vm.findClass RX9 = some m.cls := findClass_of_methodNamed B.named
  have hlocks := B.notSynchronized
  obtain ⟨R, hR⟩ : ∃ R : Room, R = ({ frames := 3, cells := 0, slots := 0, locals := 115 } : Room) := ⟨_, rfl⟩
  rw [show (headSpec (wz yX9_act cX9_act 8 (some .int)) { frames := 3, cells := 0, slots := 0, locals := 115 }).room = R from hR.symm]
  refine ti_mi hx hb hr hlocks (fun Q ret => ?_)
  have hl := lv_entry [.ref a0, .int x1, .int x2, .int x3, .int x4, .int x5] (n := 8) (Nat.le_of_ble_eq_true rfl)
  rw [lg_entry_eq]
  generalize (lg_sl [.ref a0, .int x1, .int x2, .int x3, .int x4, .int x5] ++ List.replicate (8 - (lg_sl [.ref a0, .int x1, .int x2, .int x3, .int x4, .int x5]).length) Slot.unset).toArray = ls at hl ⊢
  have hl : lv_has ls 8 [(0, .ref a0), (1, .int x1), (2, .int x2), (3, .int x3), (4, .int x4), (5, .int x5)] := hl
  refine ti_gen (P := fun H => TI D vwCl (tysOf c0) (RTg ν) Y H) (Y := Y) (ws := [3]) hT (fun H locs hT hS => ?_)
  refine lv_aload_n hx hb dX9_act_0 rfl (lv_at hl 0 rfl) ?_
  refine lv_aload_n hx hb dX9_act_1 rfl (lv_at hl 0 rfl) ?_
  refine ti_getr hx hb hts inlX9 hown hK hT ha0 rfl rfl rfl 1 (by decide) (hts _ kw_20) (fun _ h9 => h9) rfl dX9_act_2 (fun v2 hv2 hm2 => ?_)
  refine lv_iload_n hx hb dX9_act_5 rfl (lv_at hl 1 rfl) ?_
  refine lv_i2l hx hb dX9_act_6 rfl ?_
  refine lv_topl (fun v6 e6 => ?_)
  have hv6 : jv v6 (-2147483648) 2147483647 := by rw [e6]; exact jv_i hx1
  have t6 : v6.toInt = x1.toInt := by rw [e6]; exact jv_e _
  refine lv_iload_n hx hb dX9_act_7 rfl (lv_at hl 2 rfl) ?_
  refine lv_i2l hx hb dX9_act_8 rfl ?_
  refine lv_topl (fun v8 e8 => ?_)
  have hv8 : jv v8 (-2147483648) 2147483647 := by rw [e8]; exact jv_i hx2
  have t8 : v8.toInt = x2.toInt := by rw [e8]; exact jv_e _
  refine lv_iload_n hx hb dX9_act_9 rfl (lv_at hl 3 rfl) ?_
  refine lv_i2l hx hb dX9_act_10 rfl ?_
  refine lv_topl (fun v10 e10 => ?_)
  have hv10 : jv v10 (-2147483648) 2147483647 := by rw [e10]; exact jv_i hx3
  have t10 : v10.toInt = x3.toInt := by rw [e10]; exact jv_e _
  refine lv_iload hx hb dX9_act_11 (lv_at hl 4 rfl) ?_
  refine lv_i2l hx hb dX9_act_13 rfl ?_
  refine lv_topl (fun v13 e13 => ?_)
  have hv13 : jv v13 (-2147483648) 2147483647 := by rw [e13]; exact jv_i hx4
  have t13 : v13.toInt = x4.toInt := by rw [e13]; exact jv_e _
  refine lv_iload hx hb dX9_act_14 (lv_at hl 5 rfl) ?_
  refine lv_i2l hx hb dX9_act_16 rfl ?_
  refine lv_topl (fun v16 e16 => ?_)
  have hv16 : jv v16 (-2147483648) 2147483647 := by rw [e16]; exact jv_i hx5
  have t16 : v16.toInt = x5.toInt := by rw [e16]; exact jv_e _
  refine ti_calli (va_runV (As := [.ref v2, .long v6, .long v8, .long v10, .long v13, .long v16]) (rest := []) ⟨hx, hb, hml, hown, hts⟩ (t_X9_whyNot l hT ha0 hv2 (jv_w hv6 (by decide)) (jv_w hv8 (by decide)) (jv_w hv10 (by decide)) (jv_w hv13 (by decide)) (jv_w hv16 (by decide))) (cwV 6 hts (good_V kw_756 kw_757 kw_758 kw_2 kw_759) rfl rfl rfl (by decide +kernel) ⟨by rw [hR]; decide, by rw [hR]; decide⟩) (ti_preV hK hT ha0 rfl rfl) rfl rfl hl.1 rfl (lv_room (Nat.le_of_ble_eq_true rfl)) dX9_act_17 ⟨Nat.zero_le _, Nat.zero_le _⟩) hS (pW_sub rfl) (fun v17 H1 locs hB hS _ hk17 => ?_)
  obtain ⟨hH, hv17, hp17⟩ := hB
  rw [hH] at hS ⊢
  refine lv_istore (lv' := [(6, .int v17), (0, .ref a0), (1, .int x1), (2, .int x2), (3, .int x3), (4, .int x4), (5, .int x5)]) hx hb dX9_act_20 hl (by decide) rfl (fun ls hl => ?_)
  refine lv_iload hx hb dX9_act_22 (lv_at hl 0 rfl) ?_
  refine lv_if_eq (tgt := 30) hx hb dX9_act_24 (by decide) (fun c24 => ?_) (fun c24 => ?_)
  · skip
    have kl0 : (0 : Int32).toInt = 0 := by decide
    have f24 := i_eq c24
    have hv17_24l : iv v17 0 0 := iv_eql hv17 (iv_c (x := (0 : Int32)) (k := 0) (by decide)) c24 (by decide)
    have hv6_24p : jv v6 0 7 := by have b0a := (hv6).1; have b0b := (hv6).2; exact ⟨by omega, by omega⟩
    have hx1_24p : iv x1 0 7 := by have := t6; have b0a := (hv6_24p).1; have b0b := (hv6_24p).2; have b1a := (hx1).1; have b1b := (hx1).2; exact ⟨by omega, by omega⟩
    have hv13_24p : jv v13 0 100000 := by have b0a := (hv13).1; have b0b := (hv13).2; exact ⟨by omega, by omega⟩
    have hx4_24p : iv x4 0 100000 := by have := t13; have b0a := (hv13_24p).1; have b0b := (hv13_24p).2; have b1a := (hx4).1; have b1b := (hx4).2; exact ⟨by omega, by omega⟩
    have hv16_24p : jv v16 (-1) 7 := by have b0a := (hv16).1; have b0b := (hv16).2; exact ⟨by omega, by omega⟩
    have hx5_24p : iv x5 (-1) 7 := by have := t16; have b0a := (hv16_24p).1; have b0b := (hv16_24p).2; have b1a := (hx5).1; have b1b := (hx5).2; exact ⟨by omega, by omega⟩
    refine lv_aload_n hx hb dX9_act_30 rfl (lv_at hl 1 rfl) ?_
    refine ti_getE (ci := 9) (v := .ref v2) hx hb hts inlX9 hown hK hm2 rfl (by decide) (hts _ kw_20) (fun _ h9 => h9) dX9_act_31 ?_
    refine lv_iload_n hx hb dX9_act_34 rfl (lv_at hl 2 rfl) ?_
    refine lv_iload_n hx hb dX9_act_35 rfl (lv_at hl 3 rfl) ?_
    refine lv_iload_n hx hb dX9_act_36 rfl (lv_at hl 4 rfl) ?_
    refine lv_iload hx hb dX9_act_37 (lv_at hl 5 rfl) ?_
    refine lv_iload hx hb dX9_act_39 (lv_at hl 6 rfl) ?_
    refine ti_callv (va_runV (As := [.int x1, .int x2, .int x3, .int x4, .int x5]) (rest := []) ⟨hx, hb, hml, hown, hts⟩ (t_X7_perform l hT hv2 (iv_w hx1_24p (by decide)) (iv_w hx2 (by decide)) (iv_w hx3 (by decide)) (iv_w hx4_24p (by decide)) (iv_w hx5_24p (by decide)) (fun h9 => by have b0a := (hx4_24p).1; have b0b := (hx4_24p).2; have b1a := (hx5_24p).1; have b1b := (hx5_24p).2; omega)) (cwV 5 hts (good_V kw_766 kw_767 kw_768 kw_19 kw_769) rfl rfl rfl (by decide +kernel) ⟨by rw [hR]; decide, by rw [hR]; decide⟩) (ti_preV hK hT hv2 rfl rfl) rfl rfl hl.1 rfl (lv_room (Nat.le_of_ble_eq_true rfl)) dX9_act_41 ⟨Nat.zero_le _, Nat.zero_le _⟩) hS (pW_sub rfl) (fun H locs hB hS _ hk41 => ?_)
    have hT := hB
    refine lv_aload_n hx hb dX9_act_44 rfl (lv_at hl 1 rfl) ?_
    refine ti_getE (ci := 9) (v := .ref v2) hx hb hts inlX9 hown hK (hm2.call hk41 (pW_not ha0 rfl)) rfl (by decide) (hts _ kw_20) (fun _ h9 => h9) dX9_act_45 ?_
    refine ti_getr hx hb hts inlX7 hown hK hT hv2 rfl rfl rfl 8 (by decide) (hts _ kw_471) (fun _ h9 => h9) rfl dX9_act_48 (fun v48 hv48 hm48 => ?_)
    refine lv_iload_n hx hb dX9_act_51 rfl (lv_at hl 2 rfl) ?_
    refine ti_aald hx hb (aT6 hK) hT hv48 rfl hx1_24p (by decide) (fun _ _ _ => rfl) dX9_act_52 (fun v52 hv52 => ?_)
    refine lv_astore (lv' := [(7, .ref v52), (6, .int v17), (0, .ref a0), (1, .int x1), (2, .int x2), (3, .int x3), (4, .int x4), (5, .int x5)]) hx hb dX9_act_53 hl (by decide) rfl (fun ls hl => ?_)
    refine lv_aload hx hb dX9_act_55 (lv_at hl 0 rfl) ?_
    refine lv_dup hx hb dX9_act_57 rfl ?_
    refine ti_geti hx hb hts inlX3 hown hK hT hv52 rfl rfl rfl 4 (by decide) (hts _ kw_475) (fun _ h9 => h9) rfl dX9_act_58 (fun v58 hv58 hm58 => ?_)
    refine lv_aload hx hb dX9_act_61 (lv_at hl 0 rfl) ?_
    refine lv_iload_n hx hb dX9_act_63 rfl (lv_at hl 4 rfl) ?_
    refine lv_iload_n hx hb dX9_act_64 rfl (lv_at hl 5 rfl) ?_
    refine ti_calli (va_runV (As := [.int x2, .int x3]) (rest := [.int v58, .ref v52]) ⟨hx, hb, hml, hown, hts⟩ (t_X3_pleasure l hT hv52 (iv_w hx2 (by decide)) (iv_w hx3 (by decide))) (cwV 2 hts (good_V kw_771 kw_772 kw_773 kw_68 kw_774) rfl rfl rfl (by decide +kernel) ⟨by rw [hR]; decide, by rw [hR]; decide⟩) (ti_preV hK hT hv52 rfl rfl) rfl rfl hl.1 rfl (lv_room (Nat.le_of_ble_eq_true rfl)) dX9_act_65 ⟨Nat.zero_le _, Nat.zero_le _⟩) hS (pW_sub rfl) (fun v65 H1 locs hB hS _ hk65 => ?_)
    have hH := hB
    rw [hH] at hS ⊢
    refine lv_iadd hx hb dX9_act_68 ?_
    refine lv_topi (fun v68 e68 => ?_)
    have hv68 : iv v68 (-2147483648) 2147483647 := iv_top _
    refine ti_put (ty := .int) hx hb hts inlX3 tyX3 tyX3_ok nmX3 hown hK hT hS hv52 rfl rfl rfl rfl 4 (by decide) (hts _ kw_475) (fun _ h9 => h9) rfl rfl (by decide +kernel) rfl rfl ⟨v68, rfl, iv_w hv68 (by decide)⟩ (fun _ _ => trivial) dX9_act_69 (fun H locs hT hS oq69 he69 hk69 => ?_)
    refine lv_aload hx hb dX9_act_72 (lv_at hl 0 rfl) ?_
    refine ti_geti hx hb hts inlX3 hown hK hT hv52 rfl rfl rfl 0 (by decide) (hts _ kw_472) (fun _ h9 => h9) rfl dX9_act_74 (fun v74 hv74 hm74 => ?_)
    exact ret _ _ _ _ _ dX9_act_77 (⟨hT, iv_w hv74 (by decide)⟩) hS
  · skip
    have kl0 : (0 : Int32).toInt = 0 := by decide
    have f24 := i_ne c24
    have hv17_24l : iv v17 (-5) (-1) := iv_nel hv17 (iv_c (x := (0 : Int32)) (k := 0) (by decide)) c24 (by decide)
    refine lv_iload hx hb dX9_act_27 (lv_at hl 0 rfl) ?_
    exact ret _ _ _ _ _ dX9_act_29 (⟨hT, iv_w hv17_24l (by decide)⟩) hS
set_option maxHeartbeats 4000000 in
set_option maxRecDepth 100000 in
theorem t_X9_doInThought (l : Launch) {D : va_G} {c0 : Nat → ClassId} {Y : Nat → Option Nat} {ν : Nat → Nat} {H : Heap} (hT : TI D vwCl (tysOf c0) (RTg ν) Y H) {a0 : Nat} (ha0 : Y a0 = some 9) {a1 : Nat} (ha1 : Y a1 = some 7) {a2 : Nat} (ha2 : Y a2 = some 27) {x3 : Int32} (hx3 : iv x3 0 60) : Met l yX9_doInThought (wz yX9_doInThought cX9_doInThought 4 (some .boolean)) { frames := 3, cells := 0, slots := 0, locals := 115 } (TP D vwCl (tysOf c0) H [.ref a0, .ref a1, .ref a2, .int x3]) (TQi (fun x H' => TI D vwCl (tysOf c0) (RTg ν) Y H' ∧ iv x 0 1) Y [3]) 0 0 (pW Y [3]) := by
  refine Met.ofW (cc := cX9_doInThought) (maxL := 4) (ret := (some .boolean)) (by decide) rfl ?_
  intro p e s m args below meth c s₁ B hml hv
  obtain ⟨rfl, rfl, hK⟩ := hv
  have hx := B.exec
  have hb := B.bytes
  have hr := B.returns
  have hts : ∀ w ∈ wq, w.before _ s = true := fun w h => atoms_spec (ws := wz yX9_doInThought cX9_doInThought 4 (some .boolean)) B.pre w (List.mem_cons_of_mem _ h)
  have hown : s.vm.findClass RX9 = some m.cls := findClass_of_methodNamed B.named
  have hlocks := B.notSynchronized
  obtain ⟨R, hR⟩ : ∃ R : Room, R = ({ frames := 3, cells := 0, slots := 0, locals := 115 } : Room) := ⟨_, rfl⟩
  rw [show (headSpec (wz yX9_doInThought cX9_doInThought 4 (some .boolean)) { frames := 3, cells := 0, slots := 0, locals := 115 }).room = R from hR.symm]
  refine ti_mz hx hb hr hlocks (fun Q ret => ?_)
  have hl := lv_entry [.ref a0, .ref a1, .ref a2, .int x3] (n := 4) (Nat.le_of_ble_eq_true rfl)
  rw [lg_entry_eq]
  generalize (lg_sl [.ref a0, .ref a1, .ref a2, .int x3] ++ List.replicate (4 - (lg_sl [.ref a0, .ref a1, .ref a2, .int x3]).length) Slot.unset).toArray = ls at hl ⊢
  have hl : lv_has ls 4 [(0, .ref a0), (1, .ref a1), (2, .ref a2), (3, .int x3)] := hl
  refine ti_gen (P := fun H => TI D vwCl (tysOf c0) (RTg ν) Y H) (Y := Y) (ws := [3]) hT (fun H locs hT hS => ?_)
  refine lv_iload_n hx hb dX9_doInThought_0 rfl (lv_at hl 3 rfl) ?_
  refine lv_if_lt (tgt := 12) hx hb dX9_doInThought_1 (by decide) (fun c1 => ?_) (fun c1 => ?_)
  · skip
    have kl0 : (0 : Int32).toInt = 0 := by decide
    have f1 := i_lt c1
    exact (iv_no (show iv x3 0 (-1) from iv_ltl hx3 (iv_c (x := (0 : Int32)) (k := 0) (by decide)) c1 (by decide)) (by decide)).elim
  · skip
    have kl0 : (0 : Int32).toInt = 0 := by decide
    have f1 := i_nlt c1
    refine lv_iload_n hx hb dX9_doInThought_4 rfl (lv_at hl 3 rfl) ?_
    refine lv_iconst (v := 5) hx hb dX9_doInThought_5 (by decide) ?_
    refine lv_iadd hx hb dX9_doInThought_6 ?_
    refine lv_topi (fun v6 e6 => ?_)
    have hv6 : iv v6 5 65 := by rw [e6]; exact iv_w (iv_add hx3 (iv_c (x := (5 : Int32)) (k := 5) (by decide)) (by decide)) (by decide)
    have s6 : v6.toInt = x3.toInt + 5 := by rw [e6, iv_addE hx3 (iv_c (x := (5 : Int32)) (k := 5) (by decide)) (by decide)]; rfl
    have kl5 : (5 : Int32).toInt = 5 := by decide
    refine lv_aload_n hx hb dX9_doInThought_7 rfl (lv_at hl 2 rfl) ?_
    refine ti_alen (v := 60) hx hb (aT3 hK) hT ha2 rfl (by decide) dX9_doInThought_8 ?_
    refine lv_icmp_le (tgt := 14) hx hb dX9_doInThought_9 (by decide) (fun c9 => ?_) (fun c9 => ?_)
    · skip
      have kl60 : (60 : Int32).toInt = 60 := by decide
      have f9 := i_le c9
      have hv6_9l : iv v6 5 60 := iv_lel hv6 (iv_c (x := (60 : Int32)) (k := 60) (by decide)) c9 (by decide)
      have hq9_15 : iv x3 0 55 := by have b0a := (hv6_9l).1; have b0b := (hv6_9l).2; have b1a := (hx3).1; have b1b := (hx3).2; exact ⟨by omega, by omega⟩
      refine lv_aload_n hx hb dX9_doInThought_14 rfl (lv_at hl 0 rfl) ?_
      refine lv_aload_n hx hb dX9_doInThought_15 rfl (lv_at hl 1 rfl) ?_
      refine lv_aload_n hx hb dX9_doInThought_16 rfl (lv_at hl 2 rfl) ?_
      refine lv_iload_n hx hb dX9_doInThought_17 rfl (lv_at hl 3 rfl) ?_
      refine ti_lald hx hb (aT3 hK) hT ha2 rfl hq9_15 (by decide) (fun _ _ _ => rfl) dX9_doInThought_18 (fun v18 hm18 => ?_)
      refine lv_aload_n hx hb dX9_doInThought_19 rfl (lv_at hl 2 rfl) ?_
      refine lv_iload_n hx hb dX9_doInThought_20 rfl (lv_at hl 3 rfl) ?_
      refine lv_iconst (v := 1) hx hb dX9_doInThought_21 (by decide) ?_
      refine lv_iadd hx hb dX9_doInThought_22 ?_
      refine lv_topi (fun v22 e22 => ?_)
      have hv22 : iv v22 1 56 := by rw [e22]; exact iv_w (iv_add hq9_15 (iv_c (x := (1 : Int32)) (k := 1) (by decide)) (by decide)) (by decide)
      have s22 : v22.toInt = x3.toInt + 1 := by rw [e22, iv_addE hq9_15 (iv_c (x := (1 : Int32)) (k := 1) (by decide)) (by decide)]; rfl
      have kl1 : (1 : Int32).toInt = 1 := by decide
      refine ti_lald hx hb (aT3 hK) hT ha2 rfl hv22 (by decide) (fun _ _ _ => rfl) dX9_doInThought_23 (fun v23 hm23 => ?_)
      refine lv_aload_n hx hb dX9_doInThought_24 rfl (lv_at hl 2 rfl) ?_
      refine lv_iload_n hx hb dX9_doInThought_25 rfl (lv_at hl 3 rfl) ?_
      refine lv_iconst (v := 2) hx hb dX9_doInThought_26 (by decide) ?_
      refine lv_iadd hx hb dX9_doInThought_27 ?_
      refine lv_topi (fun v27 e27 => ?_)
      have hv27 : iv v27 2 57 := by rw [e27]; exact iv_w (iv_add hq9_15 (iv_c (x := (2 : Int32)) (k := 2) (by decide)) (by decide)) (by decide)
      have s27 : v27.toInt = x3.toInt + 2 := by rw [e27, iv_addE hq9_15 (iv_c (x := (2 : Int32)) (k := 2) (by decide)) (by decide)]; rfl
      have kl2 : (2 : Int32).toInt = 2 := by decide
      refine ti_lald hx hb (aT3 hK) hT ha2 rfl hv27 (by decide) (fun _ _ _ => rfl) dX9_doInThought_28 (fun v28 hm28 => ?_)
      refine lv_aload_n hx hb dX9_doInThought_29 rfl (lv_at hl 2 rfl) ?_
      refine lv_iload_n hx hb dX9_doInThought_30 rfl (lv_at hl 3 rfl) ?_
      refine lv_iconst (v := 3) hx hb dX9_doInThought_31 (by decide) ?_
      refine lv_iadd hx hb dX9_doInThought_32 ?_
      refine lv_topi (fun v32 e32 => ?_)
      have hv32 : iv v32 3 58 := by rw [e32]; exact iv_w (iv_add hq9_15 (iv_c (x := (3 : Int32)) (k := 3) (by decide)) (by decide)) (by decide)
      have s32 : v32.toInt = x3.toInt + 3 := by rw [e32, iv_addE hq9_15 (iv_c (x := (3 : Int32)) (k := 3) (by decide)) (by decide)]; rfl
      have kl3 : (3 : Int32).toInt = 3 := by decide
      refine ti_lald hx hb (aT3 hK) hT ha2 rfl hv32 (by decide) (fun _ _ _ => rfl) dX9_doInThought_33 (fun v33 hm33 => ?_)
      refine lv_aload_n hx hb dX9_doInThought_34 rfl (lv_at hl 2 rfl) ?_
      refine lv_iload_n hx hb dX9_doInThought_35 rfl (lv_at hl 3 rfl) ?_
      refine lv_iconst (v := 4) hx hb dX9_doInThought_36 (by decide) ?_
      refine lv_iadd hx hb dX9_doInThought_37 ?_
      refine lv_topi (fun v37 e37 => ?_)
      have hv37 : iv v37 4 59 := by rw [e37]; exact iv_w (iv_add hq9_15 (iv_c (x := (4 : Int32)) (k := 4) (by decide)) (by decide)) (by decide)
      have s37 : v37.toInt = x3.toInt + 4 := by rw [e37, iv_addE hq9_15 (iv_c (x := (4 : Int32)) (k := 4) (by decide)) (by decide)]; rfl
      have kl4 : (4 : Int32).toInt = 4 := by decide
      refine ti_lald hx hb (aT3 hK) hT ha2 rfl hv37 (by decide) (fun _ _ _ => rfl) dX9_doInThought_38 (fun v38 hm38 => ?_)
      refine ti_calli (va_runV (As := [.ref a1, .long v18, .long v23, .long v28, .long v33, .long v38]) (rest := []) ⟨hx, hb, hml, hown, hts⟩ (t_X9_whyNot l hT ha0 ha1 (jv_top v18) (jv_top v23) (jv_top v28) (jv_top v33) (jv_top v38)) (cwV 6 hts (good_V kw_756 kw_757 kw_758 kw_2 kw_759) rfl rfl rfl (by decide +kernel) ⟨by rw [hR]; decide, by rw [hR]; decide⟩) (ti_preV hK hT ha0 rfl rfl) rfl rfl hl.1 rfl (lv_room (Nat.le_of_ble_eq_true rfl)) dX9_doInThought_39 ⟨Nat.zero_le _, Nat.zero_le _⟩) hS (pW_sub rfl) (fun v39 H1 locs hB hS _ hk39 => ?_)
      obtain ⟨hH, hv39, hp39⟩ := hB
      rw [hH] at hS ⊢
      refine lv_if_eq (tgt := 47) hx hb dX9_doInThought_42 (by decide) (fun c42 => ?_) (fun c42 => ?_)
      · skip
        have f42 := i_eq c42
        have hv39_42l : iv v39 0 0 := iv_eql hv39 (iv_c (x := (0 : Int32)) (k := 0) (by decide)) c42 (by decide)
        have hv18_42p : jv v18 0 7 := by have b0a := ((jv_top v18)).1; have b0b := ((jv_top v18)).2; exact ⟨by omega, by omega⟩
        have hv33_42p : jv v33 0 100000 := by have b0a := ((jv_top v33)).1; have b0b := ((jv_top v33)).2; exact ⟨by omega, by omega⟩
        have hv38_42p : jv v38 (-1) 7 := by have b0a := ((jv_top v38)).1; have b0b := ((jv_top v38)).2; exact ⟨by omega, by omega⟩
        refine lv_aload_n hx hb dX9_doInThought_47 rfl (lv_at hl 1 rfl) ?_
        refine lv_aload_n hx hb dX9_doInThought_48 rfl (lv_at hl 2 rfl) ?_
        refine lv_iload_n hx hb dX9_doInThought_49 rfl (lv_at hl 3 rfl) ?_
        refine ti_laldE (v := .long v18) hx hb (aT3 hK) hT ha2 rfl hq9_15 (by decide) (hm18) dX9_doInThought_50 ?_
        refine lv_l2i hx hb dX9_doInThought_51 rfl ?_
        refine lv_topi (fun v51 e51 => ?_)
        have s51 : v51.toInt = v18.toInt := by rw [e51]; exact jv_l2i hv18_42p (by decide)
        have hv51 : iv v51 0 7 := by have b0a := (hv18_42p).1; have b0b := (hv18_42p).2; exact ⟨by omega, by omega⟩
        refine lv_aload_n hx hb dX9_doInThought_52 rfl (lv_at hl 2 rfl) ?_
        refine lv_iload_n hx hb dX9_doInThought_53 rfl (lv_at hl 3 rfl) ?_
        refine lv_iconst (v := 1) hx hb dX9_doInThought_54 (by decide) ?_
        refine lv_iadd hx hb dX9_doInThought_55 ?_
        refine lv_topi (fun v55 e55 => ?_)
        have hv55 : iv v55 1 56 := by rw [e55]; exact iv_w (iv_add hq9_15 (iv_c (x := (1 : Int32)) (k := 1) (by decide)) (by decide)) (by decide)
        have s55 : v55.toInt = x3.toInt + 1 := by rw [e55, iv_addE hq9_15 (iv_c (x := (1 : Int32)) (k := 1) (by decide)) (by decide)]; rfl
        refine ti_laldE (v := .long v23) hx hb (aT3 hK) hT ha2 rfl hv55 (by decide) (by rw [show v55 = v22 from Int32.toInt_inj.mp (by have b0a := (hv55).1; have b0b := (hv55).2; have b1a := (hv22).1; have b1b := (hv22).2; omega)]; exact hm23) dX9_doInThought_56 ?_
        refine lv_l2i hx hb dX9_doInThought_57 rfl ?_
        refine lv_topi (fun v57 e57 => ?_)
        have hv57 : iv v57 (-2147483648) 2147483647 := iv_top _
        refine lv_aload_n hx hb dX9_doInThought_58 rfl (lv_at hl 2 rfl) ?_
        refine lv_iload_n hx hb dX9_doInThought_59 rfl (lv_at hl 3 rfl) ?_
        refine lv_iconst (v := 2) hx hb dX9_doInThought_60 (by decide) ?_
        refine lv_iadd hx hb dX9_doInThought_61 ?_
        refine lv_topi (fun v61 e61 => ?_)
        have hv61 : iv v61 2 57 := by rw [e61]; exact iv_w (iv_add hq9_15 (iv_c (x := (2 : Int32)) (k := 2) (by decide)) (by decide)) (by decide)
        have s61 : v61.toInt = x3.toInt + 2 := by rw [e61, iv_addE hq9_15 (iv_c (x := (2 : Int32)) (k := 2) (by decide)) (by decide)]; rfl
        refine ti_laldE (v := .long v28) hx hb (aT3 hK) hT ha2 rfl hv61 (by decide) (by rw [show v61 = v27 from Int32.toInt_inj.mp (by have b0a := (hv61).1; have b0b := (hv61).2; have b1a := (hv27).1; have b1b := (hv27).2; omega)]; exact hm28) dX9_doInThought_62 ?_
        refine lv_l2i hx hb dX9_doInThought_63 rfl ?_
        refine lv_topi (fun v63 e63 => ?_)
        have hv63 : iv v63 (-2147483648) 2147483647 := iv_top _
        refine lv_aload_n hx hb dX9_doInThought_64 rfl (lv_at hl 2 rfl) ?_
        refine lv_iload_n hx hb dX9_doInThought_65 rfl (lv_at hl 3 rfl) ?_
        refine lv_iconst (v := 3) hx hb dX9_doInThought_66 (by decide) ?_
        refine lv_iadd hx hb dX9_doInThought_67 ?_
        refine lv_topi (fun v67 e67 => ?_)
        have hv67 : iv v67 3 58 := by rw [e67]; exact iv_w (iv_add hq9_15 (iv_c (x := (3 : Int32)) (k := 3) (by decide)) (by decide)) (by decide)
        have s67 : v67.toInt = x3.toInt + 3 := by rw [e67, iv_addE hq9_15 (iv_c (x := (3 : Int32)) (k := 3) (by decide)) (by decide)]; rfl
        refine ti_laldE (v := .long v33) hx hb (aT3 hK) hT ha2 rfl hv67 (by decide) (by rw [show v67 = v32 from Int32.toInt_inj.mp (by have b0a := (hv67).1; have b0b := (hv67).2; have b1a := (hv32).1; have b1b := (hv32).2; omega)]; exact hm33) dX9_doInThought_68 ?_
        refine lv_l2i hx hb dX9_doInThought_69 rfl ?_
        refine lv_topi (fun v69 e69 => ?_)
        have s69 : v69.toInt = v33.toInt := by rw [e69]; exact jv_l2i hv33_42p (by decide)
        have hv69 : iv v69 0 100000 := by have b0a := (hv33_42p).1; have b0b := (hv33_42p).2; exact ⟨by omega, by omega⟩
        refine lv_aload_n hx hb dX9_doInThought_70 rfl (lv_at hl 2 rfl) ?_
        refine lv_iload_n hx hb dX9_doInThought_71 rfl (lv_at hl 3 rfl) ?_
        refine lv_iconst (v := 4) hx hb dX9_doInThought_72 (by decide) ?_
        refine lv_iadd hx hb dX9_doInThought_73 ?_
        refine lv_topi (fun v73 e73 => ?_)
        have hv73 : iv v73 4 59 := by rw [e73]; exact iv_w (iv_add hq9_15 (iv_c (x := (4 : Int32)) (k := 4) (by decide)) (by decide)) (by decide)
        have s73 : v73.toInt = x3.toInt + 4 := by rw [e73, iv_addE hq9_15 (iv_c (x := (4 : Int32)) (k := 4) (by decide)) (by decide)]; rfl
        refine ti_laldE (v := .long v38) hx hb (aT3 hK) hT ha2 rfl hv73 (by decide) (by rw [show v73 = v37 from Int32.toInt_inj.mp (by have b0a := (hv73).1; have b0b := (hv73).2; have b1a := (hv37).1; have b1b := (hv37).2; omega)]; exact hm38) dX9_doInThought_74 ?_
        refine lv_l2i hx hb dX9_doInThought_75 rfl ?_
        refine lv_topi (fun v75 e75 => ?_)
        have s75 : v75.toInt = v38.toInt := by rw [e75]; exact jv_l2i hv38_42p (by decide)
        have hv75 : iv v75 (-1) 7 := by have b0a := (hv38_42p).1; have b0b := (hv38_42p).2; exact ⟨by omega, by omega⟩
        refine ti_callv (va_runV (As := [.int v51, .int v57, .int v63, .int v69, .int v75]) (rest := []) ⟨hx, hb, hml, hown, hts⟩ (t_X7_perform l hT ha1 (iv_w hv51 (by decide)) (iv_w hv57 (by decide)) (iv_w hv63 (by decide)) (iv_w hv69 (by decide)) (iv_w hv75 (by decide)) (fun h9 => by have b0a := (hv69).1; have b0b := (hv69).2; have b1a := (hv75).1; have b1b := (hv75).2; omega)) (cwV 5 hts (good_V kw_766 kw_767 kw_768 kw_19 kw_769) rfl rfl rfl (by decide +kernel) ⟨by rw [hR]; decide, by rw [hR]; decide⟩) (ti_preV hK hT ha1 rfl rfl) rfl rfl hl.1 rfl (lv_room (Nat.le_of_ble_eq_true rfl)) dX9_doInThought_76 ⟨Nat.zero_le _, Nat.zero_le _⟩) hS (pW_sub rfl) (fun H locs hB hS _ hk76 => ?_)
        have hT := hB
        refine lv_iconst (v := 1) hx hb dX9_doInThought_79 (by decide) ?_
        exact ret _ _ _ _ _ dX9_doInThought_80 (iv_w (iv_c (x := (1 : Int32)) (k := 1) (by decide)) (by decide)) (⟨hT, iv_w (iv_c (x := (1 : Int32)) (k := 1) (by decide)) (by decide)⟩) hS
      · skip
        have f42 := i_ne c42
        have hv39_42l : iv v39 (-5) (-1) := iv_nel hv39 (iv_c (x := (0 : Int32)) (k := 0) (by decide)) c42 (by decide)
        refine lv_iconst (v := 0) hx hb dX9_doInThought_45 (by decide) ?_
        exact ret _ _ _ _ _ dX9_doInThought_46 (iv_w (iv_c (x := (0 : Int32)) (k := 0) (by decide)) (by decide)) (⟨hT, iv_w (iv_c (x := (0 : Int32)) (k := 0) (by decide)) (by decide)⟩) hS
    · skip
      have kl60 : (60 : Int32).toInt = 60 := by decide
      have f9 := i_nle c9
      have hv6_9r : iv v6 61 65 := iv_ltr (iv_c (x := (60 : Int32)) (k := 60) (by decide)) hv6 (Int32.not_le.mp c9) (by decide)
      have hq9_16 : iv x3 56 60 := by have b0a := (hv6_9r).1; have b0b := (hv6_9r).2; have b1a := (hx3).1; have b1b := (hx3).2; exact ⟨by omega, by omega⟩
      refine lv_iconst (v := 0) hx hb dX9_doInThought_12 (by decide) ?_
      exact ret _ _ _ _ _ dX9_doInThought_13 (iv_w (iv_c (x := (0 : Int32)) (k := 0) (by decide)) (by decide)) (⟨hT, iv_w (iv_c (x := (0 : Int32)) (k := 0) (by decide)) (by decide)⟩) hS
set_option maxHeartbeats 4000000 in
set_option maxRecDepth 100000 in
theorem t_X9_judge (l : Launch) {D : va_G} {c0 : Nat → ClassId} {Y : Nat → Option Nat} {ν : Nat → Nat} {H : Heap} (hT : TI D vwCl (tysOf c0) (RTg ν) Y H) {a0 : Nat} (ha0 : Y a0 = some 9) {x1 : Int32} (hx1 : iv x1 (-2147483648) 2147483647) : Met l yX9_judge (wz yX9_judge cX9_judge 6 (some .int)) { frames := 4, cells := 0, slots := 0, locals := 138 } (TP D vwCl (tysOf c0) H [.ref a0, .int x1]) (TQi (fun x H' => TI D vwCl (tysOf c0) (RTg ν) Y H' ∧ iv x (-6) 12) Y [0, 1, 3, 7, 20, 22, 28]) 0 0 (pW Y [0, 1, 3, 7, 20, 22, 28]) := by
  refine Met.ofW (cc := cX9_judge) (maxL := 6) (ret := (some .int)) (by decide) rfl ?_
  intro p e s m args below meth c s₁ B hml hv
  obtain ⟨rfl, rfl, hK⟩ := hv
  have hx := B.exec
  have hb := B.bytes
  have hr := B.returns
  have hts : ∀ w ∈ wq, w.before _ s = true := fun w h => atoms_spec (ws := wz yX9_judge cX9_judge 6 (some .int)) B.pre w (List.mem_cons_of_mem _ h)
  have hown : s.vm.findClass RX9 = some m.cls := findClass_of_methodNamed B.named
  have hlocks := B.notSynchronized
  obtain ⟨R, hR⟩ : ∃ R : Room, R = ({ frames := 4, cells := 0, slots := 0, locals := 138 } : Room) := ⟨_, rfl⟩
  rw [show (headSpec (wz yX9_judge cX9_judge 6 (some .int)) { frames := 4, cells := 0, slots := 0, locals := 138 }).room = R from hR.symm]
  refine ti_mi hx hb hr hlocks (fun Q ret => ?_)
  have hl := lv_entry [.ref a0, .int x1] (n := 6) (Nat.le_of_ble_eq_true rfl)
  rw [lg_entry_eq]
  generalize (lg_sl [.ref a0, .int x1] ++ List.replicate (6 - (lg_sl [.ref a0, .int x1]).length) Slot.unset).toArray = ls at hl ⊢
  have hl : lv_has ls 6 [(0, .ref a0), (1, .int x1)] := hl
  refine ti_gen (P := fun H => TI D vwCl (tysOf c0) (RTg ν) Y H) (Y := Y) (ws := [0, 1, 3, 7, 20, 22, 28]) hT (fun H locs hT hS => ?_)
  refine lv_iload_n hx hb dX9_judge_0 rfl (lv_at hl 1 rfl) ?_
  refine lv_if_lt (tgt := 9) hx hb dX9_judge_1 (by decide) (fun c1 => ?_) (fun c1 => ?_)
  · skip
    have kl0 : (0 : Int32).toInt = 0 := by decide
    have f1 := i_lt c1
    have hx1_1l : iv x1 (-2147483648) (-1) := iv_ltl hx1 (iv_c (x := (0 : Int32)) (k := 0) (by decide)) c1 (by decide)
    refine lv_bipush (v := (-2)) hx hb dX9_judge_9 (by decide) ?_
    exact ret _ _ _ _ _ dX9_judge_11 (⟨hT, iv_w (iv_c (x := (-2 : Int32)) (k := (-2)) (by decide)) (by decide)⟩) hS
  · skip
    have kl0 : (0 : Int32).toInt = 0 := by decide
    have f1 := i_nlt c1
    have hx1_1r : iv x1 0 2147483647 := iv_ler (iv_c (x := (0 : Int32)) (k := 0) (by decide)) hx1 (Int32.not_lt.mp c1) (by decide)
    refine lv_iload_n hx hb dX9_judge_4 rfl (lv_at hl 1 rfl) ?_
    refine lv_iconst (v := 4) hx hb dX9_judge_5 (by decide) ?_
    refine lv_icmp_lt (tgt := 12) hx hb dX9_judge_6 (by decide) (fun c6 => ?_) (fun c6 => ?_)
    · skip
      have kl4 : (4 : Int32).toInt = 4 := by decide
      have f6 := i_lt c6
      have hx1_6l : iv x1 0 3 := iv_ltl hx1_1r (iv_c (x := (4 : Int32)) (k := 4) (by decide)) c6 (by decide)
      refine lv_aload_n hx hb dX9_judge_12 rfl (lv_at hl 0 rfl) ?_
      refine ti_getr hx hb hts inlX9 hown hK hT ha0 rfl rfl rfl 5 (by decide) (hts _ kw_26) (fun _ h9 => h9) rfl dX9_judge_13 (fun v13 hv13 hm13 => ?_)
      refine lv_iload_n hx hb dX9_judge_16 rfl (lv_at hl 1 rfl) ?_
      refine ti_aald hx hb (aT5 hK) hT hv13 rfl hx1_6l (by decide) (fun _ _ _ => rfl) dX9_judge_17 (fun v17 hv17 => ?_)
      refine lv_astore_n (lv' := [(2, .ref v17), (0, .ref a0), (1, .int x1)]) hx hb dX9_judge_18 rfl hl (by decide) rfl (fun ls hl => ?_)
      refine lv_aload_n hx hb dX9_judge_19 rfl (lv_at hl 0 rfl) ?_
      refine ti_geti hx hb hts inlX5 hown hK hT hv17 rfl rfl rfl 0 (by decide) (hts _ kw_799) (fun _ h9 => h9) rfl dX9_judge_20 (fun v20 hv20 hm20 => ?_)
      refine lv_if_ne (tgt := 29) hx hb dX9_judge_23 (by decide) (fun c23 => ?_) (fun c23 => ?_)
      · skip
        have f23 := i_ne c23
        have hv20_23l : iv v20 1 1 := iv_nel hv20 (iv_c (x := (0 : Int32)) (k := 0) (by decide)) c23 (by decide)
        refine lv_aload_n hx hb dX9_judge_29 rfl (lv_at hl 1 rfl) ?_
        refine ti_callr (va_runV (As := []) (rest := []) ⟨hx, hb, hml, hown, hts⟩ (t_X9_startThought l hT ha0) (cwV 0 hts (good_V kw_802 kw_803 kw_804 kw_2 kw_805) rfl rfl rfl (by decide +kernel) ⟨by rw [hR]; decide, by rw [hR]; decide⟩) (ti_preV hK hT ha0 rfl rfl) rfl rfl hl.1 rfl (lv_room (Nat.le_of_ble_eq_true rfl)) dX9_judge_30 ⟨Nat.zero_le _, Nat.zero_le _⟩) hS (pW_sub rfl) (fun v30 H locs hB hS _ hk30 => ?_)
        obtain ⟨hT, hv30⟩ := hB
        refine lv_astore_n (lv' := [(3, .ref v30), (2, .ref v17), (0, .ref a0), (1, .int x1)]) hx hb dX9_judge_33 rfl hl (by decide) rfl (fun ls hl => ?_)
        refine lv_aload_n hx hb dX9_judge_34 rfl (lv_at hl 1 rfl) ?_
        refine ti_geti hx hb hts inlX5 hown hK hT hv17 rfl rfl rfl 2 (by decide) (hts _ kw_800) (fun _ h9 => h9) rfl dX9_judge_35 (fun v35 hv35 hm35 => ?_)
        refine lv_iconst (v := 5) hx hb dX9_judge_38 (by decide) ?_
        refine lv_idiv hx hb dX9_judge_39 (iv_ne0 (iv_c (x := (5 : Int32)) (k := 5) (by decide)) (by decide)) ?_
        refine lv_topi (fun v39 e39 => ?_)
        have hv39 : iv v39 0 12 := by rw [e39]; exact iv_w (iv_divk hv35 (iv_c (x := (5 : Int32)) (k := 5) (by decide)) (by decide)) (by decide)
        refine lv_istore (lv' := [(4, .int v39), (3, .ref v30), (2, .ref v17), (0, .ref a0), (1, .int x1)]) hx hb dX9_judge_40 hl (by decide) rfl (fun ls hl => ?_)
        refine lv_iconst (v := 0) hx hb dX9_judge_42 (by decide) ?_
        have J45 : ∀ (n : Nat) (j45_L5 : Int32) (H : Heap) (locs : List Loc) (ls : Array Slot), (12 - j45_L5.toInt).toNat < n → iv j45_L5 0 12 → TI D vwCl (tysOf c0) (RTg ν) Y H → va_S (pW Y [0, 1, 3, 7, 20, 22, 28]) s.heap H locs → lv_has ls 6 [(0, .ref a0), (1, .int x1), (2, .ref v17), (3, .ref v30), (4, .int v39), (5, .int j45_L5)] → W p l e R s m ([.ref a0, .int x1] : List Value).toArray below meth c H locs 0 0 Q (F0 m 45 ls []) := by
          intro n
          induction n with
          | zero => intro j45_L5 H locs ls hms; exact absurd hms (Nat.not_lt_zero _)
          | succ n ih45 =>
            intro j45_L5 H locs ls hms45 hj45_L5 hT hS hl
            refine lv_iload hx hb dX9_judge_45 (lv_at hl 5 rfl) ?_
            refine lv_iload hx hb dX9_judge_47 (lv_at hl 4 rfl) ?_
            refine lv_icmp_ge (tgt := 77) hx hb dX9_judge_49 (by decide) (fun c49 => ?_) (fun c49 => ?_)
            · skip
              have f49 := i_le c49
              refine lv_iload hx hb dX9_judge_77 (lv_at hl 4 rfl) ?_
              exact ret _ _ _ _ _ dX9_judge_79 (⟨hT, iv_w hv39 (by decide)⟩) hS
            · skip
              have f49 := i_nle c49
              have hj45_L5_49l : iv j45_L5 0 11 := iv_ltl hj45_L5 hv39 (Int32.not_le.mp c49) (by decide)
              have hv39_49r : iv v39 1 12 := iv_ltr hj45_L5_49l hv39 (Int32.not_le.mp c49) (by decide)
              refine lv_aload_n hx hb dX9_judge_52 rfl (lv_at hl 0 rfl) ?_
              refine lv_aload_n hx hb dX9_judge_53 rfl (lv_at hl 3 rfl) ?_
              refine lv_aload_n hx hb dX9_judge_54 rfl (lv_at hl 2 rfl) ?_
              refine ti_getr hx hb hts inlX5 hown hK hT hv17 rfl rfl rfl 3 (by decide) (hts _ kw_801) (fun _ h9 => h9) rfl dX9_judge_55 (fun v55 hv55 hm55 => ?_)
              refine lv_iload hx hb dX9_judge_58 (lv_at hl 5 rfl) ?_
              refine lv_iconst (v := 5) hx hb dX9_judge_60 (by decide) ?_
              refine lv_imul hx hb dX9_judge_61 ?_
              refine lv_topi (fun v61 e61 => ?_)
              have hv61 : iv v61 0 55 := by rw [e61]; exact iv_mul hj45_L5_49l (iv_c (x := (5 : Int32)) (k := 5) (by decide)) (by decide)
              have kl5 : (5 : Int32).toInt = 5 := by decide
              have s61 : v61.toInt = j45_L5.toInt * (5 : Int32).toInt := by rw [e61]; exact iv_mulE hj45_L5_49l (iv_c (x := (5 : Int32)) (k := 5) (by decide)) (by decide)
              have s61 : v61.toInt = 5 * j45_L5.toInt := by rw [s61]; simp only [show (5 : Int32).toInt = 5 from by decide]; try omega
              refine ti_calli (va_runV (As := [.ref v30, .ref v55, .int v61]) (rest := []) ⟨hx, hb, hml, hown, hts⟩ (t_X9_doInThought l hT ha0 hv30 hv55 (iv_w hv61 (by decide))) (cwV 3 hts (good_V kw_806 kw_807 kw_808 kw_2 kw_809) rfl rfl rfl (by decide +kernel) ⟨by rw [hR]; decide, by rw [hR]; decide⟩) (ti_preV hK hT ha0 rfl rfl) rfl rfl hl.1 rfl (lv_room (Nat.le_of_ble_eq_true rfl)) dX9_judge_62 ⟨Nat.zero_le _, Nat.zero_le _⟩) hS (pW_sub rfl) (fun v62 H locs hB hS _ hk62 => ?_)
              obtain ⟨hT, hv62⟩ := hB
              refine lv_if_ne (tgt := 71) hx hb dX9_judge_65 (by decide) (fun c65 => ?_) (fun c65 => ?_)
              · skip
                have f65 := i_ne c65
                have hv62_65l : iv v62 1 1 := iv_nel hv62 (iv_c (x := (0 : Int32)) (k := 0) (by decide)) c65 (by decide)
                obtain ⟨v71, e71⟩ : ∃ y : Int32, y = j45_L5 + 1 := ⟨_, rfl⟩
                have hv71 : iv v71 1 12 := by rw [e71]; exact iv_w (iv_add hj45_L5_49l (iv_c (x := (1 : Int32)) (k := 1) (by decide)) (by decide)) (by decide)
                have s71 : v71.toInt = j45_L5.toInt + 1 := by rw [e71, iv_addE hj45_L5_49l (iv_c (x := (1 : Int32)) (k := 1) (by decide)) (by decide)]; rfl
                refine lv_iinc (v := v71) (lv' := [(5, .int v71), (0, .ref a0), (1, .int x1), (2, .ref v17), (3, .ref v30), (4, .int v39)]) hx hb dX9_judge_71 hl (k := 5) rfl (by rw [e71]; rfl) (by decide) rfl (fun ls hl => ?_)
                refine lv_goto (tgt := 45) hx hb dX9_judge_74 (by decide) ?_
                exact ih45 v71 _ _ _ (ms_up hms45 (by have := s71; omega) (iv_w (c := 1) (d := 12) hv71 (by decide)).2) (iv_w hv71 (by decide)) hT hS (lv_sub hl [1, 2, 3, 4, 5, 0] rfl)
              · skip
                have f65 := i_eq c65
                have hv62_65l : iv v62 0 0 := iv_eql hv62 (iv_c (x := (0 : Int32)) (k := 0) (by decide)) c65 (by decide)
                refine lv_iload hx hb dX9_judge_68 (lv_at hl 5 rfl) ?_
                exact ret _ _ _ _ _ dX9_judge_70 (⟨hT, iv_w hj45_L5_49l (by decide)⟩) hS
        refine lv_istore (lv' := [(5, .int (0 : Int32)), (4, .int v39), (3, .ref v30), (2, .ref v17), (0, .ref a0), (1, .int x1)]) hx hb dX9_judge_43 hl (by decide) rfl (fun ls hl => ?_)
        exact J45 _ (0 : Int32) _ _ _ (Nat.lt_succ_self _) (iv_w (iv_c (x := (0 : Int32)) (k := 0) (by decide)) (by decide)) hT hS (lv_sub hl [4, 5, 3, 2, 1, 0] rfl)
      · skip
        have f23 := i_eq c23
        have hv20_23l : iv v20 0 0 := iv_eql hv20 (iv_c (x := (0 : Int32)) (k := 0) (by decide)) c23 (by decide)
        refine lv_bipush (v := (-6)) hx hb dX9_judge_26 (by decide) ?_
        exact ret _ _ _ _ _ dX9_judge_28 (⟨hT, iv_w (iv_c (x := (-6 : Int32)) (k := (-6)) (by decide)) (by decide)⟩) hS
    · skip
      have kl4 : (4 : Int32).toInt = 4 := by decide
      have f6 := i_nlt c6
      have hx1_6r : iv x1 4 2147483647 := iv_ler (iv_c (x := (4 : Int32)) (k := 4) (by decide)) hx1_1r (Int32.not_lt.mp c6) (by decide)
      refine lv_bipush (v := (-2)) hx hb dX9_judge_9 (by decide) ?_
      exact ret _ _ _ _ _ dX9_judge_11 (⟨hT, iv_w (iv_c (x := (-2 : Int32)) (k := (-2)) (by decide)) (by decide)⟩) hS
