set_option maxHeartbeats 4000000 in
set_option maxRecDepth 100000 in
theorem t_X9_seed (l : Launch) {D : va_G} {c0 : Nat → ClassId} {Y : Nat → Option Nat} {ν : Nat → Nat} {H : Heap} (hT : TI D vwCl (tysOf c0) (RTg ν) Y H) {a0 : Nat} (ha0 : Y a0 = some 9) {x1 : Int32} (hx1 : iv x1 (-2147483648) 2147483647) : Met l yX9_seed (wz yX9_seed cX9_seed 2 (some .int)) { frames := 0, cells := 0, slots := 0, locals := 0 } (TP D vwCl (tysOf c0) H [.ref a0, .int x1]) (TQi (fun x H' => TI D vwCl (tysOf c0) (RTg ν) Y H' ∧ iv x (-2) 0) Y [7]) 0 0 (pW Y [7]) := by
  refine Met.ofW (cc := cX9_seed) (maxL := 2) (ret := (some .int)) (by decide) rfl ?_
  intro p e s m args below meth c s₁ B hml hv
  obtain ⟨rfl, rfl, hK⟩ := hv
  have hx := B.exec
  have hb := B.bytes
  have hr := B.returns
  have hts : ∀ w ∈ wq, w.before _ s = true := fun w h => atoms_spec (ws := wz yX9_seed cX9_seed 2 (some .int)) B.pre w (List.mem_cons_of_mem _ h)
  have hown : s.vm.findClass RX9 = some m.cls := findClass_of_methodNamed B.named
  have hlocks := B.notSynchronized
  obtain ⟨R, hR⟩ : ∃ R : Room, R = ({ frames := 0, cells := 0, slots := 0, locals := 0 } : Room) := ⟨_, rfl⟩
  rw [show (headSpec (wz yX9_seed cX9_seed 2 (some .int)) { frames := 0, cells := 0, slots := 0, locals := 0 }).room = R from hR.symm]
  refine ti_mi hx hb hr hlocks (fun Q ret => ?_)
  have hl := lv_entry [.ref a0, .int x1] (n := 2) (Nat.le_of_ble_eq_true rfl)
  rw [lg_entry_eq]
  generalize (lg_sl [.ref a0, .int x1] ++ List.replicate (2 - (lg_sl [.ref a0, .int x1]).length) Slot.unset).toArray = ls at hl ⊢
  have hl : lv_has ls 2 [(0, .ref a0), (1, .int x1)] := hl
  refine ti_gen (P := fun H => TI D vwCl (tysOf c0) (RTg ν) Y H) (Y := Y) (ws := [7]) hT (fun H locs hT hS => ?_)
  refine lv_iload_n hx hb dX9_seed_0 rfl (lv_at hl 1 rfl) ?_
  refine lv_if_lt (tgt := 11) hx hb dX9_seed_1 (by decide) (fun c1 => ?_) (fun c1 => ?_)
  · skip
    have kl0 : (0 : Int32).toInt = 0 := by decide
    have f1 := i_lt c1
    have hx1_1l : iv x1 (-2147483648) (-1) := iv_ltl hx1 (iv_c (x := (0 : Int32)) (k := 0) (by decide)) c1 (by decide)
    refine lv_bipush (v := (-2)) hx hb dX9_seed_11 (by decide) ?_
    exact ret _ _ _ _ _ dX9_seed_13 (⟨hT, iv_w (iv_c (x := (-2 : Int32)) (k := (-2)) (by decide)) (by decide)⟩) hS
  · skip
    have kl0 : (0 : Int32).toInt = 0 := by decide
    have f1 := i_nlt c1
    have hx1_1r : iv x1 0 2147483647 := iv_ler (iv_c (x := (0 : Int32)) (k := 0) (by decide)) hx1 (Int32.not_lt.mp c1) (by decide)
    refine lv_iload_n hx hb dX9_seed_4 rfl (lv_at hl 1 rfl) ?_
    refine lv_ldcw (v := 2000000000) hx hb hown (hts _ kw_1493) dX9_seed_5 ?_
    refine lv_icmp_le (tgt := 14) hx hb dX9_seed_8 (by decide) (fun c8 => ?_) (fun c8 => ?_)
    · skip
      have kl2000000000 : (2000000000 : Int32).toInt = 2000000000 := by decide
      have f8 := i_le c8
      have hx1_8l : iv x1 0 2000000000 := iv_lel hx1_1r (iv_c (x := (2000000000 : Int32)) (k := 2000000000) (by decide)) c8 (by decide)
      refine lv_aload_n hx hb dX9_seed_14 rfl (lv_at hl 0 rfl) ?_
      refine ti_getr hx hb hts inlX9 hown hK hT ha0 rfl rfl rfl 1 (by decide) (hts _ kw_20) (fun _ h9 => h9) rfl dX9_seed_15 (fun v15 hv15 hm15 => ?_)
      refine lv_iload_n hx hb dX9_seed_18 rfl (lv_at hl 1 rfl) ?_
      refine lv_i2l hx hb dX9_seed_19 rfl ?_
      refine lv_topl (fun v19 e19 => ?_)
      have hv19 : jv v19 0 2000000000 := by rw [e19]; exact jv_i hx1_8l
      have t19 : v19.toInt = x1.toInt := by rw [e19]; exact jv_e _
      refine ti_put (ty := .long) hx hb hts inlX7 tyX7 tyX7_ok nmX7 hown hK hT hS hv15 rfl rfl rfl rfl 5 (by decide) (hts _ kw_1494) (fun _ h9 => h9) rfl rfl (by decide +kernel) rfl rfl ⟨v19, rfl⟩ (fun _ _ => trivial) dX9_seed_20 (fun H locs hT hS oq20 he20 hk20 => ?_)
      refine lv_iconst (v := 0) hx hb dX9_seed_23 (by decide) ?_
      exact ret _ _ _ _ _ dX9_seed_24 (⟨hT, iv_w (iv_c (x := (0 : Int32)) (k := 0) (by decide)) (by decide)⟩) hS
    · skip
      have kl2000000000 : (2000000000 : Int32).toInt = 2000000000 := by decide
      have f8 := i_nle c8
      have hx1_8r : iv x1 2000000001 2147483647 := iv_ltr (iv_c (x := (2000000000 : Int32)) (k := 2000000000) (by decide)) hx1_1r (Int32.not_le.mp c8) (by decide)
      refine lv_bipush (v := (-2)) hx hb dX9_seed_11 (by decide) ?_
      exact ret _ _ _ _ _ dX9_seed_13 (⟨hT, iv_w (iv_c (x := (-2 : Int32)) (k := (-2)) (by decide)) (by decide)⟩) hS
set_option maxHeartbeats 4000000 in
set_option maxRecDepth 100000 in
theorem t_X9_slotsWithRow (l : Launch) {D : va_G} {c0 : Nat → ClassId} {Y : Nat → Option Nat} {ν : Nat → Nat} {H : Heap} (hT : TI D vwCl (tysOf c0) (RTg ν) Y H) {a0 : Nat} (ha0 : Y a0 = some 9) : Met l yX9_slotsWithRow (wz yX9_slotsWithRow cX9_slotsWithRow 3 (some .int)) { frames := 0, cells := 0, slots := 0, locals := 0 } (TP D vwCl (tysOf c0) H [.ref a0]) (TQi (fun x H' => H' = H) Y []) 0 0 (pW Y []) := by
  refine Met.ofW (cc := cX9_slotsWithRow) (maxL := 3) (ret := (some .int)) (by decide) rfl ?_
  intro p e s m args below meth c s₁ B hml hv
  obtain ⟨rfl, rfl, hK⟩ := hv
  have hx := B.exec
  have hb := B.bytes
  have hr := B.returns
  have hts : ∀ w ∈ wq, w.before _ s = true := fun w h => atoms_spec (ws := wz yX9_slotsWithRow cX9_slotsWithRow 3 (some .int)) B.pre w (List.mem_cons_of_mem _ h)
  have hown : s.vm.findClass RX9 = some m.cls := findClass_of_methodNamed B.named
  have hlocks := B.notSynchronized
  obtain ⟨R, hR⟩ : ∃ R : Room, R = ({ frames := 0, cells := 0, slots := 0, locals := 0 } : Room) := ⟨_, rfl⟩
  rw [show (headSpec (wz yX9_slotsWithRow cX9_slotsWithRow 3 (some .int)) { frames := 0, cells := 0, slots := 0, locals := 0 }).room = R from hR.symm]
  refine ti_mi hx hb hr hlocks (fun Q ret => ?_)
  have hl := lv_entry [.ref a0] (n := 3) (Nat.le_of_ble_eq_true rfl)
  rw [lg_entry_eq]
  generalize (lg_sl [.ref a0] ++ List.replicate (3 - (lg_sl [.ref a0]).length) Slot.unset).toArray = ls at hl ⊢
  have hl : lv_has ls 3 [(0, .ref a0)] := hl
  have hS : va_S (pW Y []) s.heap s.heap [] := va_S.rf
  refine lv_iconst (v := 0) hx hb dX9_slotsWithRow_0 (by decide) ?_
  refine lv_istore_n (lv' := [(1, .int (0 : Int32)), (0, .ref a0)]) hx hb dX9_slotsWithRow_1 rfl hl (by decide) rfl (fun ls hl => ?_)
  refine lv_iconst (v := 0) hx hb dX9_slotsWithRow_2 (by decide) ?_
  have J4 : ∀ (n : Nat) (j4_L1 : Int32) (j4_L2 : Int32) (locs : List Loc) (ls : Array Slot), (4 - j4_L2.toInt).toNat < n → iv j4_L1 (-2147483648) 2147483647 → iv j4_L2 0 4 → va_S (pW Y []) s.heap s.heap locs → lv_has ls 3 [(0, .ref a0), (1, .int j4_L1), (2, .int j4_L2)] → W p l e R s m ([.ref a0] : List Value).toArray below meth c s.heap locs 0 0 Q (F0 m 4 ls []) := by
    intro n
    induction n with
    | zero => intro j4_L1 j4_L2 locs ls hms; exact absurd hms (Nat.not_lt_zero _)
    | succ n ih4 =>
      intro j4_L1 j4_L2 locs ls hms4 hj4_L1 hj4_L2 hS hl
      refine lv_iload_n hx hb dX9_slotsWithRow_4 rfl (lv_at hl 2 rfl) ?_
      refine lv_iconst (v := 4) hx hb dX9_slotsWithRow_5 (by decide) ?_
      refine lv_icmp_ge (tgt := 35) hx hb dX9_slotsWithRow_6 (by decide) (fun c6 => ?_) (fun c6 => ?_)
      · skip
        have kl4 : (4 : Int32).toInt = 4 := by decide
        have f6 := i_le c6
        have hj4_L2_6r : iv j4_L2 4 4 := iv_ler (iv_c (x := (4 : Int32)) (k := 4) (by decide)) hj4_L2 c6 (by decide)
        refine lv_iload_n hx hb dX9_slotsWithRow_35 rfl (lv_at hl 1 rfl) ?_
        exact ret _ _ _ _ _ dX9_slotsWithRow_36 (rfl) hS
      · skip
        have kl4 : (4 : Int32).toInt = 4 := by decide
        have f6 := i_nle c6
        have hj4_L2_6l : iv j4_L2 0 3 := iv_ltl hj4_L2 (iv_c (x := (4 : Int32)) (k := 4) (by decide)) (Int32.not_le.mp c6) (by decide)
        refine lv_iload_n hx hb dX9_slotsWithRow_9 rfl (lv_at hl 1 rfl) ?_
        refine lv_aload_n hx hb dX9_slotsWithRow_10 rfl (lv_at hl 0 rfl) ?_
        refine ti_getr hx hb hts inlX9 hown hK hT ha0 rfl rfl rfl 5 (by decide) (hts _ kw_26) (fun _ h9 => h9) rfl dX9_slotsWithRow_11 (fun v11 hv11 hm11 => ?_)
        refine lv_iload_n hx hb dX9_slotsWithRow_14 rfl (lv_at hl 2 rfl) ?_
        refine ti_aald hx hb (aT5 hK) hT hv11 rfl hj4_L2_6l (by decide) (fun _ _ _ => rfl) dX9_slotsWithRow_15 (fun v15 hv15 => ?_)
        refine ti_geti hx hb hts inlX5 hown hK hT hv15 rfl rfl rfl 0 (by decide) (hts _ kw_799) (fun _ h9 => h9) rfl dX9_slotsWithRow_16 (fun v16 hv16 hm16 => ?_)
        have J27 : ∀ (j27_S1 : Int32) (locs : List Loc) (ls : Array Slot), iv j27_S1 0 1 → va_S (pW Y []) s.heap s.heap locs → lv_has ls 3 [(0, .ref a0), (1, .int j4_L1), (2, .int j4_L2)] → W p l e R s m ([.ref a0] : List Value).toArray below meth c s.heap locs 0 0 Q (F0 m 27 ls [.int j27_S1, .int j4_L1]) := by
          intro j27_S1 locs ls hj27_S1 hS hl
          refine lv_iadd hx hb dX9_slotsWithRow_27 ?_
          refine lv_topi (fun v27 e27 => ?_)
          have hv27 : iv v27 (-2147483648) 2147483647 := iv_top _
          refine lv_istore_n (lv' := [(1, .int v27), (0, .ref a0), (2, .int j4_L2)]) hx hb dX9_slotsWithRow_28 rfl hl (by decide) rfl (fun ls hl => ?_)
          obtain ⟨v29, e29⟩ : ∃ y : Int32, y = j4_L2 + 1 := ⟨_, rfl⟩
          have hv29 : iv v29 1 4 := by rw [e29]; exact iv_w (iv_add hj4_L2_6l (iv_c (x := (1 : Int32)) (k := 1) (by decide)) (by decide)) (by decide)
          have s29 : v29.toInt = j4_L2.toInt + 1 := by rw [e29, iv_addE hj4_L2_6l (iv_c (x := (1 : Int32)) (k := 1) (by decide)) (by decide)]; rfl
          refine lv_iinc (v := v29) (lv' := [(2, .int v29), (1, .int v27), (0, .ref a0)]) hx hb dX9_slotsWithRow_29 hl (k := 2) rfl (by rw [e29]; rfl) (by decide) rfl (fun ls hl => ?_)
          refine lv_goto (tgt := 4) hx hb dX9_slotsWithRow_32 (by decide) ?_
          exact ih4 v27 v29 _ _ (ms_up hms4 (by have := s29; omega) (iv_w (c := 1) (d := 4) hv29 (by decide)).2) (iv_w hv27 (by decide)) (iv_w hv29 (by decide))  hS (lv_sub hl [2, 1, 0] rfl)
        refine lv_if_eq (tgt := 26) hx hb dX9_slotsWithRow_19 (by decide) (fun c19 => ?_) (fun c19 => ?_)
        · skip
          have kl0 : (0 : Int32).toInt = 0 := by decide
          have f19 := i_eq c19
          have hv16_19l : iv v16 0 0 := iv_eql hv16 (iv_c (x := (0 : Int32)) (k := 0) (by decide)) c19 (by decide)
          refine lv_iconst (v := 0) hx hb dX9_slotsWithRow_26 (by decide) ?_
          exact J27 (0 : Int32) _ _  (iv_w (iv_c (x := (0 : Int32)) (k := 0) (by decide)) (by decide))  hS (lv_sub hl [0, 1, 2] rfl)
        · skip
          have kl0 : (0 : Int32).toInt = 0 := by decide
          have f19 := i_ne c19
          have hv16_19l : iv v16 1 1 := iv_nel hv16 (iv_c (x := (0 : Int32)) (k := 0) (by decide)) c19 (by decide)
          refine lv_iconst (v := 1) hx hb dX9_slotsWithRow_22 (by decide) ?_
          refine lv_goto (tgt := 27) hx hb dX9_slotsWithRow_23 (by decide) ?_
          exact J27 (1 : Int32) _ _  (iv_w (iv_c (x := (1 : Int32)) (k := 1) (by decide)) (by decide))  hS (lv_sub hl [0, 1, 2] rfl)
  refine lv_istore_n (lv' := [(2, .int (0 : Int32)), (1, .int (0 : Int32)), (0, .ref a0)]) hx hb dX9_slotsWithRow_3 rfl hl (by decide) rfl (fun ls hl => ?_)
  exact J4 _ (0 : Int32) (0 : Int32) _ _ (Nat.lt_succ_self _) (iv_w (iv_c (x := (0 : Int32)) (k := 0) (by decide)) (by decide)) (iv_w (iv_c (x := (0 : Int32)) (k := 0) (by decide)) (by decide))  hS (lv_sub hl [2, 1, 0] rfl)
set_option maxHeartbeats 4000000 in
set_option maxRecDepth 100000 in
theorem t_X9_count (l : Launch) {D : va_G} {c0 : Nat → ClassId} {Y : Nat → Option Nat} {ν : Nat → Nat} {H : Heap} (hT : TI D vwCl (tysOf c0) (RTg ν) Y H) {a0 : Nat} (ha0 : Y a0 = some 9) {x1 : Int32} (hx1 : iv x1 (-2147483648) 2147483647) : Met l yX9_count (wz yX9_count cX9_count 2 (some .int)) { frames := 1, cells := 0, slots := 0, locals := 22 } (TP D vwCl (tysOf c0) H [.ref a0, .int x1]) (TQi (fun x H' => H' = H) Y []) 0 0 (pW Y []) := by
  refine Met.ofW (cc := cX9_count) (maxL := 2) (ret := (some .int)) (by decide) rfl ?_
  intro p e s m args below meth c s₁ B hml hv
  obtain ⟨rfl, rfl, hK⟩ := hv
  have hx := B.exec
  have hb := B.bytes
  have hr := B.returns
  have hts : ∀ w ∈ wq, w.before _ s = true := fun w h => atoms_spec (ws := wz yX9_count cX9_count 2 (some .int)) B.pre w (List.mem_cons_of_mem _ h)
  have hown : s.vm.findClass RX9 = some m.cls := findClass_of_methodNamed B.named
  have hlocks := B.notSynchronized
  obtain ⟨R, hR⟩ : ∃ R : Room, R = ({ frames := 1, cells := 0, slots := 0, locals := 22 } : Room) := ⟨_, rfl⟩
  rw [show (headSpec (wz yX9_count cX9_count 2 (some .int)) { frames := 1, cells := 0, slots := 0, locals := 22 }).room = R from hR.symm]
  refine ti_mi hx hb hr hlocks (fun Q ret => ?_)
  have hl := lv_entry [.ref a0, .int x1] (n := 2) (Nat.le_of_ble_eq_true rfl)
  rw [lg_entry_eq]
  generalize (lg_sl [.ref a0, .int x1] ++ List.replicate (2 - (lg_sl [.ref a0, .int x1]).length) Slot.unset).toArray = ls at hl ⊢
  have hl : lv_has ls 2 [(0, .ref a0), (1, .int x1)] := hl
  have hS : va_S (pW Y []) s.heap s.heap [] := va_S.rf
  refine lv_iload_n hx hb dX9_count_0 rfl (lv_at hl 1 rfl) ?_
  by_cases c1_0 : x1.toInt = 0
  · skip
    refine lv_tableIn (off := 67) (tgt := 68) hx hb dX9_count_1 (by omega) (by omega) (by rw [c1_0]; rfl) (by decide) ?_
    have hx1_1 : iv x1 0 0 := iv_c c1_0
    refine lv_aload_n hx hb dX9_count_68 rfl (lv_at hl 0 rfl) ?_
    refine ti_getr hx hb hts inlX9 hown hK hT ha0 rfl rfl rfl 1 (by decide) (hts _ kw_20) (fun _ h9 => h9) rfl dX9_count_69 (fun v69 hv69 hm69 => ?_)
    refine ti_geti hx hb hts inlX7 hown hK hT hv69 rfl rfl rfl 0 (by decide) (hts _ kw_498) (fun _ h9 => h9) rfl dX9_count_72 (fun v72 hv72 hm72 => ?_)
    exact ret _ _ _ _ _ dX9_count_75 (rfl) hS
  by_cases c1_1 : x1.toInt = 1
  · skip
    refine lv_tableIn (off := 75) (tgt := 76) hx hb dX9_count_1 (by omega) (by omega) (by rw [c1_1]; rfl) (by decide) ?_
    have hx1_1 : iv x1 1 1 := iv_c c1_1
    refine lv_aload_n hx hb dX9_count_76 rfl (lv_at hl 0 rfl) ?_
    refine ti_getr hx hb hts inlX9 hown hK hT ha0 rfl rfl rfl 1 (by decide) (hts _ kw_20) (fun _ h9 => h9) rfl dX9_count_77 (fun v77 hv77 hm77 => ?_)
    refine ti_geti hx hb hts inlX7 hown hK hT hv77 rfl rfl rfl 1 (by decide) (hts _ kw_480) (fun _ h9 => h9) rfl dX9_count_80 (fun v80 hv80 hm80 => ?_)
    exact ret _ _ _ _ _ dX9_count_83 (rfl) hS
  by_cases c1_2 : x1.toInt = 2
  · skip
    refine lv_tableIn (off := 83) (tgt := 84) hx hb dX9_count_1 (by omega) (by omega) (by rw [c1_2]; rfl) (by decide) ?_
    have hx1_1 : iv x1 2 2 := iv_c c1_2
    refine lv_aload_n hx hb dX9_count_84 rfl (lv_at hl 0 rfl) ?_
    refine ti_getr hx hb hts inlX9 hown hK hT ha0 rfl rfl rfl 1 (by decide) (hts _ kw_20) (fun _ h9 => h9) rfl dX9_count_85 (fun v85 hv85 hm85 => ?_)
    refine ti_geti hx hb hts inlX7 hown hK hT hv85 rfl rfl rfl 2 (by decide) (hts _ kw_189) (fun _ h9 => h9) rfl dX9_count_88 (fun v88 hv88 hm88 => ?_)
    exact ret _ _ _ _ _ dX9_count_91 (rfl) hS
  by_cases c1_3 : x1.toInt = 3
  · skip
    refine lv_tableIn (off := 91) (tgt := 92) hx hb dX9_count_1 (by omega) (by omega) (by rw [c1_3]; rfl) (by decide) ?_
    have hx1_1 : iv x1 3 3 := iv_c c1_3
    refine lv_aload_n hx hb dX9_count_92 rfl (lv_at hl 0 rfl) ?_
    refine ti_getr hx hb hts inlX9 hown hK hT ha0 rfl rfl rfl 0 (by decide) (hts _ kw_16) (fun _ h9 => h9) rfl dX9_count_93 (fun v93 hv93 hm93 => ?_)
    refine ti_geti hx hb hts inlX6 hown hK hT hv93 rfl rfl rfl 1 (by decide) (hts _ kw_162) (fun _ h9 => h9) rfl dX9_count_96 (fun v96 hv96 hm96 => ?_)
    exact ret _ _ _ _ _ dX9_count_99 (rfl) hS
  by_cases c1_4 : x1.toInt = 4
  · skip
    refine lv_tableIn (off := 99) (tgt := 100) hx hb dX9_count_1 (by omega) (by omega) (by rw [c1_4]; rfl) (by decide) ?_
    have hx1_1 : iv x1 4 4 := iv_c c1_4
    refine lv_aload_n hx hb dX9_count_100 rfl (lv_at hl 0 rfl) ?_
    refine ti_getr hx hb hts inlX9 hown hK hT ha0 rfl rfl rfl 1 (by decide) (hts _ kw_20) (fun _ h9 => h9) rfl dX9_count_101 (fun v101 hv101 hm101 => ?_)
    refine ti_geti hx hb hts inlX7 hown hK hT hv101 rfl rfl rfl 3 (by decide) (hts _ kw_1450) (fun _ h9 => h9) rfl dX9_count_104 (fun v104 hv104 hm104 => ?_)
    exact ret _ _ _ _ _ dX9_count_107 (rfl) hS
  by_cases c1_5 : x1.toInt = 5
  · skip
    refine lv_tableIn (off := 107) (tgt := 108) hx hb dX9_count_1 (by omega) (by omega) (by rw [c1_5]; rfl) (by decide) ?_
    have hx1_1 : iv x1 5 5 := iv_c c1_5
    refine lv_aload_n hx hb dX9_count_108 rfl (lv_at hl 0 rfl) ?_
    refine ti_getr hx hb hts inlX9 hown hK hT ha0 rfl rfl rfl 1 (by decide) (hts _ kw_20) (fun _ h9 => h9) rfl dX9_count_109 (fun v109 hv109 hm109 => ?_)
    refine ti_getr hx hb hts inlX7 hown hK hT hv109 rfl rfl rfl 7 (by decide) (hts _ kw_1299) (fun _ h9 => h9) rfl dX9_count_112 (fun v112 hv112 hm112 => ?_)
    refine ti_geti hx hb hts inlX1 hown hK hT hv112 rfl rfl rfl 0 (by decide) (hts _ kw_1300) (fun _ h9 => h9) rfl dX9_count_115 (fun v115 hv115 hm115 => ?_)
    exact ret _ _ _ _ _ dX9_count_118 (rfl) hS
  by_cases c1_6 : x1.toInt = 6
  · skip
    refine lv_tableIn (off := 118) (tgt := 119) hx hb dX9_count_1 (by omega) (by omega) (by rw [c1_6]; rfl) (by decide) ?_
    have hx1_1 : iv x1 6 6 := iv_c c1_6
    refine lv_aload_n hx hb dX9_count_119 rfl (lv_at hl 0 rfl) ?_
    refine ti_getr hx hb hts inlX9 hown hK hT ha0 rfl rfl rfl 1 (by decide) (hts _ kw_20) (fun _ h9 => h9) rfl dX9_count_120 (fun v120 hv120 hm120 => ?_)
    refine ti_geti hx hb hts inlX7 hown hK hT hv120 rfl rfl rfl 4 (by decide) (hts _ kw_1504) (fun _ h9 => h9) rfl dX9_count_123 (fun v123 hv123 hm123 => ?_)
    exact ret _ _ _ _ _ dX9_count_126 (rfl) hS
  by_cases c1_7 : x1.toInt = 7
  · skip
    refine lv_tableIn (off := 126) (tgt := 127) hx hb dX9_count_1 (by omega) (by omega) (by rw [c1_7]; rfl) (by decide) ?_
    have hx1_1 : iv x1 7 7 := iv_c c1_7
    refine lv_aload_n hx hb dX9_count_127 rfl (lv_at hl 0 rfl) ?_
    refine ti_getr hx hb hts inlX9 hown hK hT ha0 rfl rfl rfl 1 (by decide) (hts _ kw_20) (fun _ h9 => h9) rfl dX9_count_128 (fun v128 hv128 hm128 => ?_)
    refine ti_getr hx hb hts inlX7 hown hK hT hv128 rfl rfl rfl 6 (by decide) (hts _ kw_575) (fun _ h9 => h9) rfl dX9_count_131 (fun v131 hv131 hm131 => ?_)
    refine ti_geti hx hb hts inlX0 hown hK hT hv131 rfl rfl rfl 0 (by decide) (hts _ kw_1210) (fun _ h9 => h9) rfl dX9_count_134 (fun v134 hv134 hm134 => ?_)
    exact ret _ _ _ _ _ dX9_count_137 (rfl) hS
  by_cases c1_8 : x1.toInt = 8
  · skip
    refine lv_tableIn (off := 137) (tgt := 138) hx hb dX9_count_1 (by omega) (by omega) (by rw [c1_8]; rfl) (by decide) ?_
    have hx1_1 : iv x1 8 8 := iv_c c1_8
    refine lv_aload_n hx hb dX9_count_138 rfl (lv_at hl 0 rfl) ?_
    refine ti_getr hx hb hts inlX9 hown hK hT ha0 rfl rfl rfl 1 (by decide) (hts _ kw_20) (fun _ h9 => h9) rfl dX9_count_139 (fun v139 hv139 hm139 => ?_)
    refine ti_getr hx hb hts inlX7 hown hK hT hv139 rfl rfl rfl 6 (by decide) (hts _ kw_575) (fun _ h9 => h9) rfl dX9_count_142 (fun v142 hv142 hm142 => ?_)
    refine ti_geti hx hb hts inlX0 hown hK hT hv142 rfl rfl rfl 1 (by decide) (hts _ kw_1211) (fun _ h9 => h9) rfl dX9_count_145 (fun v145 hv145 hm145 => ?_)
    exact ret _ _ _ _ _ dX9_count_148 (rfl) hS
  by_cases c1_9 : x1.toInt = 9
  · skip
    refine lv_tableIn (off := 148) (tgt := 149) hx hb dX9_count_1 (by omega) (by omega) (by rw [c1_9]; rfl) (by decide) ?_
    have hx1_1 : iv x1 9 9 := iv_c c1_9
    refine lv_aload_n hx hb dX9_count_149 rfl (lv_at hl 0 rfl) ?_
    refine ti_getr hx hb hts inlX9 hown hK hT ha0 rfl rfl rfl 1 (by decide) (hts _ kw_20) (fun _ h9 => h9) rfl dX9_count_150 (fun v150 hv150 hm150 => ?_)
    refine ti_getr hx hb hts inlX7 hown hK hT hv150 rfl rfl rfl 6 (by decide) (hts _ kw_575) (fun _ h9 => h9) rfl dX9_count_153 (fun v153 hv153 hm153 => ?_)
    refine ti_geti hx hb hts inlX0 hown hK hT hv153 rfl rfl rfl 2 (by decide) (hts _ kw_1212) (fun _ h9 => h9) rfl dX9_count_156 (fun v156 hv156 hm156 => ?_)
    exact ret _ _ _ _ _ dX9_count_159 (rfl) hS
  by_cases c1_10 : x1.toInt = 10
  · skip
    refine lv_tableIn (off := 159) (tgt := 160) hx hb dX9_count_1 (by omega) (by omega) (by rw [c1_10]; rfl) (by decide) ?_
    have hx1_1 : iv x1 10 10 := iv_c c1_10
    refine lv_aload_n hx hb dX9_count_160 rfl (lv_at hl 0 rfl) ?_
    refine ti_getr hx hb hts inlX9 hown hK hT ha0 rfl rfl rfl 1 (by decide) (hts _ kw_20) (fun _ h9 => h9) rfl dX9_count_161 (fun v161 hv161 hm161 => ?_)
    refine ti_getr hx hb hts inlX7 hown hK hT hv161 rfl rfl rfl 6 (by decide) (hts _ kw_575) (fun _ h9 => h9) rfl dX9_count_164 (fun v164 hv164 hm164 => ?_)
    refine ti_geti hx hb hts inlX0 hown hK hT hv164 rfl rfl rfl 3 (by decide) (hts _ kw_1213) (fun _ h9 => h9) rfl dX9_count_167 (fun v167 hv167 hm167 => ?_)
    refine lv_if_eq (tgt := 177) hx hb dX9_count_170 (by decide) (fun c170 => ?_) (fun c170 => ?_)
    · skip
      have kl0 : (0 : Int32).toInt = 0 := by decide
      have f170 := i_eq c170
      have hv167_170l : iv v167 0 0 := iv_eql hv167 (iv_c (x := (0 : Int32)) (k := 0) (by decide)) c170 (by decide)
      refine lv_iconst (v := 0) hx hb dX9_count_177 (by decide) ?_
      exact ret _ _ _ _ _ dX9_count_178 (rfl) hS
    · skip
      have kl0 : (0 : Int32).toInt = 0 := by decide
      have f170 := i_ne c170
      have hv167_170l : iv v167 1 1 := iv_nel hv167 (iv_c (x := (0 : Int32)) (k := 0) (by decide)) c170 (by decide)
      refine lv_iconst (v := 1) hx hb dX9_count_173 (by decide) ?_
      refine lv_goto (tgt := 178) hx hb dX9_count_174 (by decide) ?_
      exact ret _ _ _ _ _ dX9_count_178 (rfl) hS
  by_cases c1_11 : x1.toInt = 11
  · skip
    refine lv_tableIn (off := 178) (tgt := 179) hx hb dX9_count_1 (by omega) (by omega) (by rw [c1_11]; rfl) (by decide) ?_
    have hx1_1 : iv x1 11 11 := iv_c c1_11
    refine lv_aload_n hx hb dX9_count_179 rfl (lv_at hl 0 rfl) ?_
    refine ti_getr hx hb hts inlX9 hown hK hT ha0 rfl rfl rfl 1 (by decide) (hts _ kw_20) (fun _ h9 => h9) rfl dX9_count_180 (fun v180 hv180 hm180 => ?_)
    refine ti_getr hx hb hts inlX7 hown hK hT hv180 rfl rfl rfl 6 (by decide) (hts _ kw_575) (fun _ h9 => h9) rfl dX9_count_183 (fun v183 hv183 hm183 => ?_)
    refine ti_geti hx hb hts inlX0 hown hK hT hv183 rfl rfl rfl 4 (by decide) (hts _ kw_1329) (fun _ h9 => h9) rfl dX9_count_186 (fun v186 hv186 hm186 => ?_)
    exact ret _ _ _ _ _ dX9_count_189 (rfl) hS
  by_cases c1_12 : x1.toInt = 12
  · skip
    refine lv_tableIn (off := 189) (tgt := 190) hx hb dX9_count_1 (by omega) (by omega) (by rw [c1_12]; rfl) (by decide) ?_
    have hx1_1 : iv x1 12 12 := iv_c c1_12
    refine lv_aload_n hx hb dX9_count_190 rfl (lv_at hl 0 rfl) ?_
    refine ti_calli (va_runV (As := []) (rest := []) ⟨hx, hb, hml, hown, hts⟩ (t_X9_slotsWithRow l hT ha0) (cwV 0 hts (good_V kw_1505 kw_1506 kw_1507 kw_2 kw_1508) rfl rfl rfl (by decide +kernel) ⟨by rw [hR]; decide, by rw [hR]; decide⟩) (ti_preV hK hT ha0 rfl rfl) rfl rfl hl.1 rfl (lv_room (Nat.le_of_ble_eq_true rfl)) dX9_count_191 ⟨Nat.zero_le _, Nat.zero_le _⟩) hS (pW_sub rfl) (fun v191 H1 locs hB hS _ hk191 => ?_)
    have hH := hB
    rw [hH] at hS ⊢
    exact ret _ _ _ _ _ dX9_count_194 (rfl) hS
  refine lv_tableOut (tgt := 195) hx hb dX9_count_1 (by have b0a := (hx1).1; have b0b := (hx1).2; omega) (by decide) ?_
  refine lv_iconst (v := (-1)) hx hb dX9_count_195 (by decide) ?_
  exact ret _ _ _ _ _ dX9_count_196 (rfl) hS
set_option maxHeartbeats 4000000 in
set_option maxRecDepth 100000 in
theorem t_X9_keep (l : Launch) {D : va_G} {c0 : Nat → ClassId} {Y : Nat → Option Nat} {ν : Nat → Nat} {H : Heap} (hT : TI D vwCl (tysOf c0) (RTg ν) Y H) {a0 : Nat} (ha0 : Y a0 = some 9) {x1 : Int32} (hx1 : iv x1 (-2147483648) 2147483647) : Met l yX9_keep (wz yX9_keep cX9_keep 2 (some .int)) { frames := 3, cells := 0, slots := 0, locals := 103 } (TP D vwCl (tysOf c0) H [.ref a0, .int x1]) (TQi (fun x H' => TI D vwCl (tysOf c0) (RTg ν) Y H' ∧ iv x (-2) 0) Y [0, 1, 3, 7, 20, 22, 24, 28]) 0 0 (pW Y [0, 1, 3, 7, 20, 22, 24, 28]) := by
  refine Met.ofW (cc := cX9_keep) (maxL := 2) (ret := (some .int)) (by decide) rfl ?_
  intro p e s m args below meth c s₁ B hml hv
  obtain ⟨rfl, rfl, hK⟩ := hv
  have hx := B.exec
  have hb := B.bytes
  have hr := B.returns
  have hts : ∀ w ∈ wq, w.before _ s = true := fun w h => atoms_spec (ws := wz yX9_keep cX9_keep 2 (some .int)) B.pre w (List.mem_cons_of_mem _ h)
  have hown : s.vm.findClass RX9 = some m.cls := findClass_of_methodNamed B.named
  have hlocks := B.notSynchronized
  obtain ⟨R, hR⟩ : ∃ R : Room, R = ({ frames := 3, cells := 0, slots := 0, locals := 103 } : Room) := ⟨_, rfl⟩
  rw [show (headSpec (wz yX9_keep cX9_keep 2 (some .int)) { frames := 3, cells := 0, slots := 0, locals := 103 }).room = R from hR.symm]
  refine ti_mi hx hb hr hlocks (fun Q ret => ?_)
  have hl := lv_entry [.ref a0, .int x1] (n := 2) (Nat.le_of_ble_eq_true rfl)
  rw [lg_entry_eq]
  generalize (lg_sl [.ref a0, .int x1] ++ List.replicate (2 - (lg_sl [.ref a0, .int x1]).length) Slot.unset).toArray = ls at hl ⊢
  have hl : lv_has ls 2 [(0, .ref a0), (1, .int x1)] := hl
  refine ti_gen (P := fun H => TI D vwCl (tysOf c0) (RTg ν) Y H) (Y := Y) (ws := [0, 1, 3, 7, 20, 22, 24, 28]) hT (fun H locs hT hS => ?_)
  refine lv_iload_n hx hb dX9_keep_0 rfl (lv_at hl 1 rfl) ?_
  refine lv_if_lt (tgt := 9) hx hb dX9_keep_1 (by decide) (fun c1 => ?_) (fun c1 => ?_)
  · skip
    have kl0 : (0 : Int32).toInt = 0 := by decide
    have f1 := i_lt c1
    have hx1_1l : iv x1 (-2147483648) (-1) := iv_ltl hx1 (iv_c (x := (0 : Int32)) (k := 0) (by decide)) c1 (by decide)
    refine lv_bipush (v := (-2)) hx hb dX9_keep_9 (by decide) ?_
    exact ret _ _ _ _ _ dX9_keep_11 (⟨hT, iv_w (iv_c (x := (-2 : Int32)) (k := (-2)) (by decide)) (by decide)⟩) hS
  · skip
    have kl0 : (0 : Int32).toInt = 0 := by decide
    have f1 := i_nlt c1
    have hx1_1r : iv x1 0 2147483647 := iv_ler (iv_c (x := (0 : Int32)) (k := 0) (by decide)) hx1 (Int32.not_lt.mp c1) (by decide)
    refine lv_iload_n hx hb dX9_keep_4 rfl (lv_at hl 1 rfl) ?_
    refine lv_iconst (v := 3) hx hb dX9_keep_5 (by decide) ?_
    refine lv_icmp_lt (tgt := 12) hx hb dX9_keep_6 (by decide) (fun c6 => ?_) (fun c6 => ?_)
    · skip
      have kl3 : (3 : Int32).toInt = 3 := by decide
      have f6 := i_lt c6
      have hx1_6l : iv x1 0 2 := iv_ltl hx1_1r (iv_c (x := (3 : Int32)) (k := 3) (by decide)) c6 (by decide)
      refine lv_aload_n hx hb dX9_keep_12 rfl (lv_at hl 0 rfl) ?_
      refine ti_getr hx hb hts inlX9 hown hK hT ha0 rfl rfl rfl 3 (by decide) (hts _ kw_22) (fun _ h9 => h9) rfl dX9_keep_13 (fun v13 hv13 hm13 => ?_)
      refine lv_iload_n hx hb dX9_keep_16 rfl (lv_at hl 1 rfl) ?_
      refine ti_aald hx hb (aT4 hK) hT hv13 rfl hx1_6l (by decide) (fun _ _ _ => rfl) dX9_keep_17 (fun v17 hv17 => ?_)
      refine lv_aload_n hx hb dX9_keep_18 rfl (lv_at hl 0 rfl) ?_
      refine ti_getr hx hb hts inlX9 hown hK hT ha0 rfl rfl rfl 1 (by decide) (hts _ kw_20) (fun _ h9 => h9) rfl dX9_keep_19 (fun v19 hv19 hm19 => ?_)
      refine ti_callv (va_runV (As := [.ref v19]) (rest := []) ⟨hx, hb, hml, hown, hts⟩ (t_X7_copyFrom l hT hv17 hv19) (cwV 1 hts (good_V kw_342 kw_343 kw_344 kw_19 kw_345) rfl rfl rfl (by decide +kernel) ⟨by rw [hR]; decide, by rw [hR]; decide⟩) (ti_preV hK hT hv17 rfl rfl) rfl rfl hl.1 rfl (lv_room (Nat.le_of_ble_eq_true rfl)) dX9_keep_22 ⟨Nat.zero_le _, Nat.zero_le _⟩) hS (pW_sub rfl) (fun H locs hB hS _ hk22 => ?_)
      have hT := hB
      refine lv_aload_n hx hb dX9_keep_25 rfl (lv_at hl 0 rfl) ?_
      refine ti_getr hx hb hts inlX9 hown hK hT ha0 rfl rfl rfl 4 (by decide) (hts _ kw_24) (fun _ h9 => h9) rfl dX9_keep_26 (fun v26 hv26 hm26 => ?_)
      refine lv_iload_n hx hb dX9_keep_29 rfl (lv_at hl 1 rfl) ?_
      refine lv_iconst (v := 1) hx hb dX9_keep_30 (by decide) ?_
      refine ti_zast hx hb (aT2 hK) hT hS hv26 rfl rfl hx1_6l (by decide) (fun _ _ _ => ⟨_, _, rfl, by decide, by decide⟩) (iv_w (iv_c (x := (1 : Int32)) (k := 1) (by decide)) (by decide)) (iv_c (x := (1 : Int32)) (k := 1) (by decide)) (fun _ _ => trivial) dX9_keep_31 (fun H locs hT hS oq31 he31 hk31 => ?_)
      refine lv_iconst (v := 0) hx hb dX9_keep_32 (by decide) ?_
      exact ret _ _ _ _ _ dX9_keep_33 (⟨hT, iv_w (iv_c (x := (0 : Int32)) (k := 0) (by decide)) (by decide)⟩) hS
    · skip
      have kl3 : (3 : Int32).toInt = 3 := by decide
      have f6 := i_nlt c6
      have hx1_6r : iv x1 3 2147483647 := iv_ler (iv_c (x := (3 : Int32)) (k := 3) (by decide)) hx1_1r (Int32.not_lt.mp c6) (by decide)
      refine lv_bipush (v := (-2)) hx hb dX9_keep_9 (by decide) ?_
      exact ret _ _ _ _ _ dX9_keep_11 (⟨hT, iv_w (iv_c (x := (-2 : Int32)) (k := (-2)) (by decide)) (by decide)⟩) hS
set_option maxHeartbeats 4000000 in
set_option maxRecDepth 100000 in
theorem t_X9_back (l : Launch) {D : va_G} {c0 : Nat → ClassId} {Y : Nat → Option Nat} {ν : Nat → Nat} {H : Heap} (hT : TI D vwCl (tysOf c0) (RTg ν) Y H) {a0 : Nat} (ha0 : Y a0 = some 9) {x1 : Int32} (hx1 : iv x1 (-2147483648) 2147483647) : Met l yX9_back (wz yX9_back cX9_back 2 (some .int)) { frames := 3, cells := 0, slots := 0, locals := 103 } (TP D vwCl (tysOf c0) H [.ref a0, .int x1]) (TQi (fun x H' => TI D vwCl (tysOf c0) (RTg ν) Y H' ∧ iv x (-6) 0) Y [0, 1, 3, 7, 20, 22, 28]) 0 0 (pW Y [0, 1, 3, 7, 20, 22, 28]) := by
  refine Met.ofW (cc := cX9_back) (maxL := 2) (ret := (some .int)) (by decide) rfl ?_
  intro p e s m args below meth c s₁ B hml hv
  obtain ⟨rfl, rfl, hK⟩ := hv
  have hx := B.exec
  have hb := B.bytes
  have hr := B.returns
  have hts : ∀ w ∈ wq, w.before _ s = true := fun w h => atoms_spec (ws := wz yX9_back cX9_back 2 (some .int)) B.pre w (List.mem_cons_of_mem _ h)
  have hown : s.vm.findClass RX9 = some m.cls := findClass_of_methodNamed B.named
  have hlocks := B.notSynchronized
  obtain ⟨R, hR⟩ : ∃ R : Room, R = ({ frames := 3, cells := 0, slots := 0, locals := 103 } : Room) := ⟨_, rfl⟩
  rw [show (headSpec (wz yX9_back cX9_back 2 (some .int)) { frames := 3, cells := 0, slots := 0, locals := 103 }).room = R from hR.symm]
  refine ti_mi hx hb hr hlocks (fun Q ret => ?_)
  have hl := lv_entry [.ref a0, .int x1] (n := 2) (Nat.le_of_ble_eq_true rfl)
  rw [lg_entry_eq]
  generalize (lg_sl [.ref a0, .int x1] ++ List.replicate (2 - (lg_sl [.ref a0, .int x1]).length) Slot.unset).toArray = ls at hl ⊢
  have hl : lv_has ls 2 [(0, .ref a0), (1, .int x1)] := hl
  refine ti_gen (P := fun H => TI D vwCl (tysOf c0) (RTg ν) Y H) (Y := Y) (ws := [0, 1, 3, 7, 20, 22, 28]) hT (fun H locs hT hS => ?_)
  refine lv_iload_n hx hb dX9_back_0 rfl (lv_at hl 1 rfl) ?_
  refine lv_if_lt (tgt := 9) hx hb dX9_back_1 (by decide) (fun c1 => ?_) (fun c1 => ?_)
  · skip
    have kl0 : (0 : Int32).toInt = 0 := by decide
    have f1 := i_lt c1
    have hx1_1l : iv x1 (-2147483648) (-1) := iv_ltl hx1 (iv_c (x := (0 : Int32)) (k := 0) (by decide)) c1 (by decide)
    refine lv_bipush (v := (-2)) hx hb dX9_back_9 (by decide) ?_
    exact ret _ _ _ _ _ dX9_back_11 (⟨hT, iv_w (iv_c (x := (-2 : Int32)) (k := (-2)) (by decide)) (by decide)⟩) hS
  · skip
    have kl0 : (0 : Int32).toInt = 0 := by decide
    have f1 := i_nlt c1
    have hx1_1r : iv x1 0 2147483647 := iv_ler (iv_c (x := (0 : Int32)) (k := 0) (by decide)) hx1 (Int32.not_lt.mp c1) (by decide)
    refine lv_iload_n hx hb dX9_back_4 rfl (lv_at hl 1 rfl) ?_
    refine lv_iconst (v := 3) hx hb dX9_back_5 (by decide) ?_
    refine lv_icmp_lt (tgt := 12) hx hb dX9_back_6 (by decide) (fun c6 => ?_) (fun c6 => ?_)
    · skip
      have kl3 : (3 : Int32).toInt = 3 := by decide
      have f6 := i_lt c6
      have hx1_6l : iv x1 0 2 := iv_ltl hx1_1r (iv_c (x := (3 : Int32)) (k := 3) (by decide)) c6 (by decide)
      refine lv_aload_n hx hb dX9_back_12 rfl (lv_at hl 0 rfl) ?_
      refine ti_getr hx hb hts inlX9 hown hK hT ha0 rfl rfl rfl 4 (by decide) (hts _ kw_24) (fun _ h9 => h9) rfl dX9_back_13 (fun v13 hv13 hm13 => ?_)
      refine lv_iload_n hx hb dX9_back_16 rfl (lv_at hl 1 rfl) ?_
      refine ti_zald (lo := 0) (hi := 1) hx hb (aT2 hK) hT hv13 rfl hx1_6l (by decide) (fun _ _ _ => ⟨_, _, rfl, by decide, by decide⟩) dX9_back_17 (fun v17 hv17 hm17 => ?_)
      refine lv_if_ne (tgt := 24) hx hb dX9_back_18 (by decide) (fun c18 => ?_) (fun c18 => ?_)
      · skip
        have f18 := i_ne c18
        have hv17_18l : iv v17 1 1 := iv_nel hv17 (iv_c (x := (0 : Int32)) (k := 0) (by decide)) c18 (by decide)
        refine lv_aload_n hx hb dX9_back_24 rfl (lv_at hl 0 rfl) ?_
        refine ti_getr hx hb hts inlX9 hown hK hT ha0 rfl rfl rfl 1 (by decide) (hts _ kw_20) (fun _ h9 => h9) rfl dX9_back_25 (fun v25 hv25 hm25 => ?_)
        refine lv_aload_n hx hb dX9_back_28 rfl (lv_at hl 0 rfl) ?_
        refine ti_getr hx hb hts inlX9 hown hK hT ha0 rfl rfl rfl 3 (by decide) (hts _ kw_22) (fun _ h9 => h9) rfl dX9_back_29 (fun v29 hv29 hm29 => ?_)
        refine lv_iload_n hx hb dX9_back_32 rfl (lv_at hl 1 rfl) ?_
        refine ti_aald hx hb (aT4 hK) hT hv29 rfl hx1_6l (by decide) (fun _ _ _ => rfl) dX9_back_33 (fun v33 hv33 => ?_)
        refine ti_callv (va_runV (As := [.ref v33]) (rest := []) ⟨hx, hb, hml, hown, hts⟩ (t_X7_copyFrom l hT hv25 hv33) (cwV 1 hts (good_V kw_342 kw_343 kw_344 kw_19 kw_345) rfl rfl rfl (by decide +kernel) ⟨by rw [hR]; decide, by rw [hR]; decide⟩) (ti_preV hK hT hv25 rfl rfl) rfl rfl hl.1 rfl (lv_room (Nat.le_of_ble_eq_true rfl)) dX9_back_34 ⟨Nat.zero_le _, Nat.zero_le _⟩) hS (pW_sub rfl) (fun H locs hB hS _ hk34 => ?_)
        have hT := hB
        refine lv_iconst (v := 0) hx hb dX9_back_37 (by decide) ?_
        exact ret _ _ _ _ _ dX9_back_38 (⟨hT, iv_w (iv_c (x := (0 : Int32)) (k := 0) (by decide)) (by decide)⟩) hS
      · skip
        have f18 := i_eq c18
        have hv17_18l : iv v17 0 0 := iv_eql hv17 (iv_c (x := (0 : Int32)) (k := 0) (by decide)) c18 (by decide)
        refine lv_bipush (v := (-6)) hx hb dX9_back_21 (by decide) ?_
        exact ret _ _ _ _ _ dX9_back_23 (⟨hT, iv_w (iv_c (x := (-6 : Int32)) (k := (-6)) (by decide)) (by decide)⟩) hS
    · skip
      have kl3 : (3 : Int32).toInt = 3 := by decide
      have f6 := i_nlt c6
      have hx1_6r : iv x1 3 2147483647 := iv_ler (iv_c (x := (3 : Int32)) (k := 3) (by decide)) hx1_1r (Int32.not_lt.mp c6) (by decide)
      refine lv_bipush (v := (-2)) hx hb dX9_back_9 (by decide) ?_
      exact ret _ _ _ _ _ dX9_back_11 (⟨hT, iv_w (iv_c (x := (-2 : Int32)) (k := (-2)) (by decide)) (by decide)⟩) hS
set_option maxHeartbeats 4000000 in
set_option maxRecDepth 100000 in
theorem t_X9_isSlot (l : Launch) {D : va_G} {c0 : Nat → ClassId} {Y : Nat → Option Nat} {ν : Nat → Nat} {H : Heap} (hT : TI D vwCl (tysOf c0) (RTg ν) Y H) {x0 : Int32} (hx0 : iv x0 (-2147483648) 2147483647) : Met l yX9_isSlot (wz yX9_isSlot cX9_isSlot 1 (some .boolean)) { frames := 0, cells := 0, slots := 0, locals := 0 } (TP D vwCl (tysOf c0) H [.int x0]) (TQi (fun x H' => H' = H ∧ iv x 0 1 ∧ ((x.toInt = 0 ∨ (0 ≤ x0.toInt ∧ x0.toInt ≤ 3)))) Y []) 0 0 (pW Y []) := by
  refine Met.ofW (cc := cX9_isSlot) (maxL := 1) (ret := (some .boolean)) (by decide) rfl ?_
  intro p e s m args below meth c s₁ B hml hv
  obtain ⟨rfl, rfl, hK⟩ := hv
  have hx := B.exec
  have hb := B.bytes
  have hr := B.returns
  have hts : ∀ w ∈ wq, w.before _ s = true := fun w h => atoms_spec (ws := wz yX9_isSlot cX9_isSlot 1 (some .boolean)) B.pre w (List.mem_cons_of_mem _ h)
  have hown : s.vm.findClass RX9 = some m.cls := findClass_of_methodNamed B.named
  have hlocks := B.notSynchronized
  obtain ⟨R, hR⟩ : ∃ R : Room, R = ({ frames := 0, cells := 0, slots := 0, locals := 0 } : Room) := ⟨_, rfl⟩
  rw [show (headSpec (wz yX9_isSlot cX9_isSlot 1 (some .boolean)) { frames := 0, cells := 0, slots := 0, locals := 0 }).room = R from hR.symm]
  refine ti_mz hx hb hr hlocks (fun Q ret => ?_)
  have hl := lv_entry [.int x0] (n := 1) (Nat.le_of_ble_eq_true rfl)
  rw [lg_entry_eq]
  generalize (lg_sl [.int x0] ++ List.replicate (1 - (lg_sl [.int x0]).length) Slot.unset).toArray = ls at hl ⊢
  have hl : lv_has ls 1 [(0, .int x0)] := hl
  have hS : va_S (pW Y []) s.heap s.heap [] := va_S.rf
  refine lv_iload_n hx hb dX9_isSlot_0 rfl (lv_at hl 0 rfl) ?_
  refine lv_if_lt (tgt := 13) hx hb dX9_isSlot_1 (by decide) (fun c1 => ?_) (fun c1 => ?_)
  · skip
    have kl0 : (0 : Int32).toInt = 0 := by decide
    have f1 := i_lt c1
    have hx0_1l : iv x0 (-2147483648) (-1) := iv_ltl hx0 (iv_c (x := (0 : Int32)) (k := 0) (by decide)) c1 (by decide)
    refine lv_iconst (v := 0) hx hb dX9_isSlot_13 (by decide) ?_
    exact ret _ _ _ _ _ dX9_isSlot_14 (iv_w (iv_c (x := (0 : Int32)) (k := 0) (by decide)) (by decide)) (⟨rfl, iv_w (iv_c (x := (0 : Int32)) (k := 0) (by decide)) (by decide), by have b0a := (hx0_1l).1; have b0b := (hx0_1l).2; omega⟩) hS
  · skip
    have kl0 : (0 : Int32).toInt = 0 := by decide
    have f1 := i_nlt c1
    have hx0_1r : iv x0 0 2147483647 := iv_ler (iv_c (x := (0 : Int32)) (k := 0) (by decide)) hx0 (Int32.not_lt.mp c1) (by decide)
    refine lv_iload_n hx hb dX9_isSlot_4 rfl (lv_at hl 0 rfl) ?_
    refine lv_iconst (v := 4) hx hb dX9_isSlot_5 (by decide) ?_
    refine lv_icmp_ge (tgt := 13) hx hb dX9_isSlot_6 (by decide) (fun c6 => ?_) (fun c6 => ?_)
    · skip
      have kl4 : (4 : Int32).toInt = 4 := by decide
      have f6 := i_le c6
      have hx0_6r : iv x0 4 2147483647 := iv_ler (iv_c (x := (4 : Int32)) (k := 4) (by decide)) hx0_1r c6 (by decide)
      refine lv_iconst (v := 0) hx hb dX9_isSlot_13 (by decide) ?_
      exact ret _ _ _ _ _ dX9_isSlot_14 (iv_w (iv_c (x := (0 : Int32)) (k := 0) (by decide)) (by decide)) (⟨rfl, iv_w (iv_c (x := (0 : Int32)) (k := 0) (by decide)) (by decide), by have b0a := (hx0_6r).1; have b0b := (hx0_6r).2; omega⟩) hS
    · skip
      have kl4 : (4 : Int32).toInt = 4 := by decide
      have f6 := i_nle c6
      have hx0_6l : iv x0 0 3 := iv_ltl hx0_1r (iv_c (x := (4 : Int32)) (k := 4) (by decide)) (Int32.not_le.mp c6) (by decide)
      refine lv_iconst (v := 1) hx hb dX9_isSlot_9 (by decide) ?_
      refine lv_goto (tgt := 14) hx hb dX9_isSlot_10 (by decide) ?_
      have kl1 : (1 : Int32).toInt = 1 := by decide
      exact ret _ _ _ _ _ dX9_isSlot_14 (iv_w (iv_c (x := (1 : Int32)) (k := 1) (by decide)) (by decide)) (⟨rfl, iv_w (iv_c (x := (1 : Int32)) (k := 1) (by decide)) (by decide), by have b0a := (hx0_6l).1; have b0b := (hx0_6l).2; omega⟩) hS
set_option maxHeartbeats 4000000 in
set_option maxRecDepth 100000 in
theorem t_X9_row (l : Launch) {D : va_G} {c0 : Nat → ClassId} {Y : Nat → Option Nat} {ν : Nat → Nat} {H : Heap} (hT : TI D vwCl (tysOf c0) (RTg ν) Y H) {a0 : Nat} (ha0 : Y a0 = some 9) {x1 : Int32} (hx1 : iv x1 (-2147483648) 2147483647) {x2 : Int32} (hx2 : iv x2 (-2147483648) 2147483647) {x3 : Int32} (hx3 : iv x3 (-2147483648) 2147483647) : Met l yX9_row (wz yX9_row cX9_row 4 (some .int)) { frames := 1, cells := 0, slots := 0, locals := 23 } (TP D vwCl (tysOf c0) H [.ref a0, .int x1, .int x2, .int x3]) (TQi (fun x H' => TI D vwCl (tysOf c0) (RTg ν) Y H' ∧ iv x (-3) 0) Y [5, 27]) 0 0 (pW Y [5, 27]) := by
  refine Met.ofW (cc := cX9_row) (maxL := 4) (ret := (some .int)) (by decide) rfl ?_
  intro p e s m args below meth c s₁ B hml hv
  obtain ⟨rfl, rfl, hK⟩ := hv
  have hx := B.exec
  have hb := B.bytes
  have hr := B.returns
  have hts : ∀ w ∈ wq, w.before _ s = true := fun w h => atoms_spec (ws := wz yX9_row cX9_row 4 (some .int)) B.pre w (List.mem_cons_of_mem _ h)
  have hown : s.vm.findClass RX9 = some m.cls := findClass_of_methodNamed B.named
  have hlocks := B.notSynchronized
  obtain ⟨R, hR⟩ : ∃ R : Room, R = ({ frames := 1, cells := 0, slots := 0, locals := 23 } : Room) := ⟨_, rfl⟩
  rw [show (headSpec (wz yX9_row cX9_row 4 (some .int)) { frames := 1, cells := 0, slots := 0, locals := 23 }).room = R from hR.symm]
  refine ti_mi hx hb hr hlocks (fun Q ret => ?_)
  have hl := lv_entry [.ref a0, .int x1, .int x2, .int x3] (n := 4) (Nat.le_of_ble_eq_true rfl)
  rw [lg_entry_eq]
  generalize (lg_sl [.ref a0, .int x1, .int x2, .int x3] ++ List.replicate (4 - (lg_sl [.ref a0, .int x1, .int x2, .int x3]).length) Slot.unset).toArray = ls at hl ⊢
  have hl : lv_has ls 4 [(0, .ref a0), (1, .int x1), (2, .int x2), (3, .int x3)] := hl
  refine ti_gen (P := fun H => TI D vwCl (tysOf c0) (RTg ν) Y H) (Y := Y) (ws := [5, 27]) hT (fun H locs hT hS => ?_)
  refine lv_iload_n hx hb dX9_row_0 rfl (lv_at hl 1 rfl) ?_
  refine ti_calli (va_runS (As := [.int x1]) (rest := []) ⟨hx, hb, hml, hown, hts⟩ (t_X9_isSlot l hT (iv_w hx1 (by decide))) (cwS 1 hts (good_S kw_1533 kw_1534 kw_2 kw_1535) rfl rfl rfl (by decide +kernel) ⟨by rw [hR]; decide, by rw [hR]; decide⟩) (ti_preS hK) rfl rfl hl.1 rfl (lv_room (Nat.le_of_ble_eq_true rfl)) dX9_row_1 ⟨Nat.zero_le _, Nat.zero_le _⟩) hS (pW_sub rfl) (fun v1 H1 locs hB hS _ hk1 => ?_)
  obtain ⟨hH, hv1, hp1⟩ := hB
  rw [hH] at hS ⊢
  refine lv_if_eq (tgt := 22) hx hb dX9_row_4 (by decide) (fun c4 => ?_) (fun c4 => ?_)
  · skip
    have kl0 : (0 : Int32).toInt = 0 := by decide
    have f4 := i_eq c4
    have hv1_4l : iv v1 0 0 := iv_eql hv1 (iv_c (x := (0 : Int32)) (k := 0) (by decide)) c4 (by decide)
    refine lv_bipush (v := (-2)) hx hb dX9_row_22 (by decide) ?_
    exact ret _ _ _ _ _ dX9_row_24 (⟨hT, iv_w (iv_c (x := (-2 : Int32)) (k := (-2)) (by decide)) (by decide)⟩) hS
  · skip
    have kl0 : (0 : Int32).toInt = 0 := by decide
    have f4 := i_ne c4
    have hv1_4l : iv v1 1 1 := iv_nel hv1 (iv_c (x := (0 : Int32)) (k := 0) (by decide)) c4 (by decide)
    have hx1_4p : iv x1 0 3 := by have b0a := (hx1).1; have b0b := (hx1).2; exact ⟨by omega, by omega⟩
    refine lv_iload_n hx hb dX9_row_7 rfl (lv_at hl 2 rfl) ?_
    refine lv_if_lt (tgt := 22) hx hb dX9_row_8 (by decide) (fun c8 => ?_) (fun c8 => ?_)
    · skip
      have f8 := i_lt c8
      have hx2_8l : iv x2 (-2147483648) (-1) := iv_ltl hx2 (iv_c (x := (0 : Int32)) (k := 0) (by decide)) c8 (by decide)
      refine lv_bipush (v := (-2)) hx hb dX9_row_22 (by decide) ?_
      exact ret _ _ _ _ _ dX9_row_24 (⟨hT, iv_w (iv_c (x := (-2 : Int32)) (k := (-2)) (by decide)) (by decide)⟩) hS
    · skip
      have f8 := i_nlt c8
      have hx2_8r : iv x2 0 2147483647 := iv_ler (iv_c (x := (0 : Int32)) (k := 0) (by decide)) hx2 (Int32.not_lt.mp c8) (by decide)
      refine lv_iload_n hx hb dX9_row_11 rfl (lv_at hl 2 rfl) ?_
      refine lv_iconst (v := 4) hx hb dX9_row_12 (by decide) ?_
      refine lv_icmp_ge (tgt := 22) hx hb dX9_row_13 (by decide) (fun c13 => ?_) (fun c13 => ?_)
      · skip
        have kl4 : (4 : Int32).toInt = 4 := by decide
        have f13 := i_le c13
        have hx2_13r : iv x2 4 2147483647 := iv_ler (iv_c (x := (4 : Int32)) (k := 4) (by decide)) hx2_8r c13 (by decide)
        refine lv_bipush (v := (-2)) hx hb dX9_row_22 (by decide) ?_
        exact ret _ _ _ _ _ dX9_row_24 (⟨hT, iv_w (iv_c (x := (-2 : Int32)) (k := (-2)) (by decide)) (by decide)⟩) hS
      · skip
        have kl4 : (4 : Int32).toInt = 4 := by decide
        have f13 := i_nle c13
        have hx2_13l : iv x2 0 3 := iv_ltl hx2_8r (iv_c (x := (4 : Int32)) (k := 4) (by decide)) (Int32.not_le.mp c13) (by decide)
        refine lv_iload_n hx hb dX9_row_16 rfl (lv_at hl 3 rfl) ?_
        refine lv_bipush (v := 60) hx hb dX9_row_17 (by decide) ?_
        refine lv_icmp_le (tgt := 25) hx hb dX9_row_19 (by decide) (fun c19 => ?_) (fun c19 => ?_)
        · skip
          have kl60 : (60 : Int32).toInt = 60 := by decide
          have f19 := i_le c19
          have hx3_19l : iv x3 (-2147483648) 60 := iv_lel hx3 (iv_c (x := (60 : Int32)) (k := 60) (by decide)) c19 (by decide)
          refine lv_iload_n hx hb dX9_row_25 rfl (lv_at hl 3 rfl) ?_
          refine lv_if_ge (tgt := 32) hx hb dX9_row_26 (by decide) (fun c26 => ?_) (fun c26 => ?_)
          · skip
            have f26 := i_le c26
            have hx3_26r : iv x3 0 60 := iv_ler (iv_c (x := (0 : Int32)) (k := 0) (by decide)) hx3_19l c26 (by decide)
            refine lv_aload_n hx hb dX9_row_32 rfl (lv_at hl 0 rfl) ?_
            refine ti_getr hx hb hts inlX9 hown hK hT ha0 rfl rfl rfl 5 (by decide) (hts _ kw_26) (fun _ h9 => h9) rfl dX9_row_33 (fun v33 hv33 hm33 => ?_)
            refine lv_iload_n hx hb dX9_row_36 rfl (lv_at hl 1 rfl) ?_
            refine ti_aald hx hb (aT5 hK) hT hv33 rfl hx1_4p (by decide) (fun _ _ _ => rfl) dX9_row_37 (fun v37 hv37 => ?_)
            refine lv_iload_n hx hb dX9_row_38 rfl (lv_at hl 2 rfl) ?_
            refine lv_iload_n hx hb dX9_row_39 rfl (lv_at hl 3 rfl) ?_
            refine ti_callv (va_runV (As := [.int x2, .int x3]) (rest := []) ⟨hx, hb, hml, hown, hts⟩ (t_X5_begin l hT hv37 (iv_w hx2_13l (by decide)) (iv_w hx3_26r (by decide))) (cwV 2 hts (good_V kw_1536 kw_1537 kw_1538 kw_43 kw_1539) rfl rfl rfl (by decide +kernel) ⟨by rw [hR]; decide, by rw [hR]; decide⟩) (ti_preV hK hT hv37 rfl rfl) rfl rfl hl.1 rfl (lv_room (Nat.le_of_ble_eq_true rfl)) dX9_row_40 ⟨Nat.zero_le _, Nat.zero_le _⟩) hS (pW_sub rfl) (fun H locs hB hS _ hk40 => ?_)
            have hT := hB
            refine lv_iconst (v := 0) hx hb dX9_row_43 (by decide) ?_
            exact ret _ _ _ _ _ dX9_row_44 (⟨hT, iv_w (iv_c (x := (0 : Int32)) (k := 0) (by decide)) (by decide)⟩) hS
          · skip
            have f26 := i_nle c26
            have hx3_26l : iv x3 (-2147483648) (-1) := iv_ltl hx3_19l (iv_c (x := (0 : Int32)) (k := 0) (by decide)) (Int32.not_le.mp c26) (by decide)
            refine lv_bipush (v := (-3)) hx hb dX9_row_29 (by decide) ?_
            exact ret _ _ _ _ _ dX9_row_31 (⟨hT, iv_w (iv_c (x := (-3 : Int32)) (k := (-3)) (by decide)) (by decide)⟩) hS
        · skip
          have kl60 : (60 : Int32).toInt = 60 := by decide
          have f19 := i_nle c19
          have hx3_19r : iv x3 61 2147483647 := iv_ltr (iv_c (x := (60 : Int32)) (k := 60) (by decide)) hx3 (Int32.not_le.mp c19) (by decide)
          refine lv_bipush (v := (-2)) hx hb dX9_row_22 (by decide) ?_
          exact ret _ _ _ _ _ dX9_row_24 (⟨hT, iv_w (iv_c (x := (-2 : Int32)) (k := (-2)) (by decide)) (by decide)⟩) hS
set_option maxHeartbeats 4000000 in
set_option maxRecDepth 100000 in
theorem t_X9_write (l : Launch) {D : va_G} {c0 : Nat → ClassId} {Y : Nat → Option Nat} {ν : Nat → Nat} {H : Heap} (hT : TI D vwCl (tysOf c0) (RTg ν) Y H) {a0 : Nat} (ha0 : Y a0 = some 9) {x1 : Int32} (hx1 : iv x1 (-2147483648) 2147483647) {x2 : Int32} (hx2 : iv x2 (-2147483648) 2147483647) {x3 : Int64} (hx3 : jv x3 (-9223372036854775808) 9223372036854775807) : Met l yX9_write (wz yX9_write cX9_write 6 (some .int)) { frames := 1, cells := 0, slots := 0, locals := 23 } (TP D vwCl (tysOf c0) H [.ref a0, .int x1, .int x2, .long x3]) (TQi (fun x H' => TI D vwCl (tysOf c0) (RTg ν) Y H' ∧ iv x (-7) 0) Y [27]) 0 0 (pW Y [27]) := by
  refine Met.ofW (cc := cX9_write) (maxL := 6) (ret := (some .int)) (by decide) rfl ?_
  intro p e s m args below meth c s₁ B hml hv
  obtain ⟨rfl, rfl, hK⟩ := hv
  have hx := B.exec
  have hb := B.bytes
  have hr := B.returns
  have hts : ∀ w ∈ wq, w.before _ s = true := fun w h => atoms_spec (ws := wz yX9_write cX9_write 6 (some .int)) B.pre w (List.mem_cons_of_mem _ h)
  have hown : s.vm.findClass RX9 = some m.cls := findClass_of_methodNamed B.named
  have hlocks := B.notSynchronized
  obtain ⟨R, hR⟩ : ∃ R : Room, R = ({ frames := 1, cells := 0, slots := 0, locals := 23 } : Room) := ⟨_, rfl⟩
  rw [show (headSpec (wz yX9_write cX9_write 6 (some .int)) { frames := 1, cells := 0, slots := 0, locals := 23 }).room = R from hR.symm]
  refine ti_mi hx hb hr hlocks (fun Q ret => ?_)
  have hl := lv_entry [.ref a0, .int x1, .int x2, .long x3] (n := 6) (Nat.le_of_ble_eq_true rfl)
  rw [lg_entry_eq]
  generalize (lg_sl [.ref a0, .int x1, .int x2, .long x3] ++ List.replicate (6 - (lg_sl [.ref a0, .int x1, .int x2, .long x3]).length) Slot.unset).toArray = ls at hl ⊢
  have hl : lv_has ls 6 [(0, .ref a0), (1, .int x1), (2, .int x2), (3, .long x3)] := hl
  refine ti_gen (P := fun H => TI D vwCl (tysOf c0) (RTg ν) Y H) (Y := Y) (ws := [27]) hT (fun H locs hT hS => ?_)
  refine lv_iload_n hx hb dX9_write_0 rfl (lv_at hl 1 rfl) ?_
  refine ti_calli (va_runS (As := [.int x1]) (rest := []) ⟨hx, hb, hml, hown, hts⟩ (t_X9_isSlot l hT (iv_w hx1 (by decide))) (cwS 1 hts (good_S kw_1533 kw_1534 kw_2 kw_1535) rfl rfl rfl (by decide +kernel) ⟨by rw [hR]; decide, by rw [hR]; decide⟩) (ti_preS hK) rfl rfl hl.1 rfl (lv_room (Nat.le_of_ble_eq_true rfl)) dX9_write_1 ⟨Nat.zero_le _, Nat.zero_le _⟩) hS (pW_sub rfl) (fun v1 H1 locs hB hS _ hk1 => ?_)
  obtain ⟨hH, hv1, hp1⟩ := hB
  rw [hH] at hS ⊢
  refine lv_if_ne (tgt := 10) hx hb dX9_write_4 (by decide) (fun c4 => ?_) (fun c4 => ?_)
  · skip
    have kl0 : (0 : Int32).toInt = 0 := by decide
    have f4 := i_ne c4
    have hv1_4l : iv v1 1 1 := iv_nel hv1 (iv_c (x := (0 : Int32)) (k := 0) (by decide)) c4 (by decide)
    have hx1_4p : iv x1 0 3 := by have b0a := (hx1).1; have b0b := (hx1).2; exact ⟨by omega, by omega⟩
    refine lv_aload_n hx hb dX9_write_10 rfl (lv_at hl 0 rfl) ?_
    refine ti_getr hx hb hts inlX9 hown hK hT ha0 rfl rfl rfl 5 (by decide) (hts _ kw_26) (fun _ h9 => h9) rfl dX9_write_11 (fun v11 hv11 hm11 => ?_)
    refine lv_iload_n hx hb dX9_write_14 rfl (lv_at hl 1 rfl) ?_
    refine ti_aald hx hb (aT5 hK) hT hv11 rfl hx1_4p (by decide) (fun _ _ _ => rfl) dX9_write_15 (fun v15 hv15 => ?_)
    refine lv_astore (lv' := [(5, .ref v15), (0, .ref a0), (1, .int x1), (2, .int x2), (3, .long x3)]) hx hb dX9_write_16 hl (by decide) rfl (fun ls hl => ?_)
    refine lv_aload hx hb dX9_write_18 (lv_at hl 0 rfl) ?_
    refine ti_geti hx hb hts inlX5 hown hK hT hv15 rfl rfl rfl 0 (by decide) (hts _ kw_799) (fun _ h9 => h9) rfl dX9_write_20 (fun v20 hv20 hm20 => ?_)
    refine lv_if_ne (tgt := 29) hx hb dX9_write_23 (by decide) (fun c23 => ?_) (fun c23 => ?_)
    · skip
      have f23 := i_ne c23
      have hv20_23l : iv v20 1 1 := iv_nel hv20 (iv_c (x := (0 : Int32)) (k := 0) (by decide)) c23 (by decide)
      refine lv_iload_n hx hb dX9_write_29 rfl (lv_at hl 3 rfl) ?_
      refine lv_if_lt (tgt := 42) hx hb dX9_write_30 (by decide) (fun c30 => ?_) (fun c30 => ?_)
      · skip
        have f30 := i_lt c30
        have hx2_30l : iv x2 (-2147483648) (-1) := iv_ltl hx2 (iv_c (x := (0 : Int32)) (k := 0) (by decide)) c30 (by decide)
        refine lv_bipush (v := (-7)) hx hb dX9_write_42 (by decide) ?_
        exact ret _ _ _ _ _ dX9_write_44 (⟨hT, iv_w (iv_c (x := (-7 : Int32)) (k := (-7)) (by decide)) (by decide)⟩) hS
      · skip
        have f30 := i_nlt c30
        have hx2_30r : iv x2 0 2147483647 := iv_ler (iv_c (x := (0 : Int32)) (k := 0) (by decide)) hx2 (Int32.not_lt.mp c30) (by decide)
        refine lv_iload_n hx hb dX9_write_33 rfl (lv_at hl 3 rfl) ?_
        refine lv_aload hx hb dX9_write_34 (lv_at hl 0 rfl) ?_
        refine ti_geti hx hb hts inlX5 hown hK hT hv15 rfl rfl rfl 2 (by decide) (hts _ kw_800) (fun _ h9 => h9) rfl dX9_write_36 (fun v36 hv36 hm36 => ?_)
        refine lv_icmp_lt (tgt := 45) hx hb dX9_write_39 (by decide) (fun c39 => ?_) (fun c39 => ?_)
        · skip
          have f39 := i_lt c39
          have hx2_39l : iv x2 0 59 := iv_ltl hx2_30r hv36 c39 (by decide)
          have hv36_39r : iv v36 1 60 := iv_ltr hx2_39l hv36 c39 (by decide)
          refine lv_aload hx hb dX9_write_45 (lv_at hl 0 rfl) ?_
          refine lv_iload_n hx hb dX9_write_47 rfl (lv_at hl 3 rfl) ?_
          refine lv_lload_n hx hb dX9_write_48 rfl (lv_at hl 4 rfl) ?_
          refine ti_callv (va_runV (As := [.int x2, .long x3]) (rest := []) ⟨hx, hb, hml, hown, hts⟩ (t_X5_put l hT hv15 (iv_w hx2_39l (by decide)) hx3) (cwV 2 hts (good_V kw_1551 kw_1552 kw_1553 kw_43 kw_1554) rfl rfl rfl (by decide +kernel) ⟨by rw [hR]; decide, by rw [hR]; decide⟩) (ti_preV hK hT hv15 rfl rfl) rfl rfl hl.1 rfl (lv_room (Nat.le_of_ble_eq_true rfl)) dX9_write_49 ⟨Nat.zero_le _, Nat.zero_le _⟩) hS (pW_sub rfl) (fun H locs hB hS _ hk49 => ?_)
          have hT := hB
          refine lv_iconst (v := 0) hx hb dX9_write_52 (by decide) ?_
          exact ret _ _ _ _ _ dX9_write_53 (⟨hT, iv_w (iv_c (x := (0 : Int32)) (k := 0) (by decide)) (by decide)⟩) hS
        · skip
          have f39 := i_nlt c39
          refine lv_bipush (v := (-7)) hx hb dX9_write_42 (by decide) ?_
          exact ret _ _ _ _ _ dX9_write_44 (⟨hT, iv_w (iv_c (x := (-7 : Int32)) (k := (-7)) (by decide)) (by decide)⟩) hS
    · skip
      have f23 := i_eq c23
      have hv20_23l : iv v20 0 0 := iv_eql hv20 (iv_c (x := (0 : Int32)) (k := 0) (by decide)) c23 (by decide)
      refine lv_bipush (v := (-6)) hx hb dX9_write_26 (by decide) ?_
      exact ret _ _ _ _ _ dX9_write_28 (⟨hT, iv_w (iv_c (x := (-6 : Int32)) (k := (-6)) (by decide)) (by decide)⟩) hS
  · skip
    have kl0 : (0 : Int32).toInt = 0 := by decide
    have f4 := i_eq c4
    have hv1_4l : iv v1 0 0 := iv_eql hv1 (iv_c (x := (0 : Int32)) (k := 0) (by decide)) c4 (by decide)
    refine lv_bipush (v := (-2)) hx hb dX9_write_7 (by decide) ?_
    exact ret _ _ _ _ _ dX9_write_9 (⟨hT, iv_w (iv_c (x := (-2 : Int32)) (k := (-2)) (by decide)) (by decide)⟩) hS
