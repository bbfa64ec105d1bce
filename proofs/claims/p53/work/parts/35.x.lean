set_option maxHeartbeats 4000000 in
set_option maxRecDepth 100000 in
theorem t_X9_keep_x (l : Launch) {D : va_G} {c0 : Nat → ClassId} {Y : Nat → Option Nat} {ν : Nat → Nat} {H : Heap} (hT : TI D vwCl (tysOf c0) (RTg ν) Y H) {a0 : Nat} (ha0 : Y a0 = some 9) {x1 : Int32} (hx1 : iv x1 (-2147483648) 2147483647) : Met l yX9_keep (wz yX9_keep cX9_keep 2 (some .int)) { frames := 3, cells := 0, slots := 0, locals := 103 } (TP D vwCl (tysOf c0) H [.ref a0, .int x1]) (TQi (fun x H' => TI D vwCl (tysOf c0) (RTg ν) Y H' ∧ iv x (-2) 0 ∧ (((¬ (0 ≤ x1.toInt ∧ x1.toInt ≤ 2) ∧ x.toInt = -2 ∧ ∀ (kp j : Nat) (v : Value), Y kp = some 24 → am kp j v H → am kp j v H') ∨ ((0 ≤ x1.toInt ∧ x1.toInt ≤ 2) ∧ x.toInt = 0 ∧ ∀ kp : Nat, Y kp = some 24 → fi D vwCl a0 9 4 (.ref kp) H → am kp x1.toNatClampNeg (.int 1) H' ∧ ∀ (j : Nat) (v : Value), j ≠ x1.toNatClampNeg → am kp j v H → am kp j v H')))) Y [0, 1, 3, 7, 20, 22, 24, 28]) 0 0 (pW Y [0, 1, 3, 7, 20, 22, 24, 28]) := by
  refine Met.ofW (cc := cX9_keep) (maxL := 2) (ret := (some .int)) (by decide) rfl ?_
  intro p e s m args below meth c s₁ B hml hv
  obtain ⟨rfl, rfl, hK⟩ := hv
  have hx := B.exec
  have hb := B.bytes
  have hr := B.returns
  have hts : ∀ w ∈ wq, w.before _ s = true := fun w h => atoms_spec (ws := wz yX9_keep cX9_keep 2 (some .int)) B.pre w (List.mem_cons_of_mem _ h)
  have hown : s.vm.findClass RX9 = some m.cls := findClass_of_methodNamed B.named
  have hlocks := B.notSynchronized
  obtain ⟨R, hR⟩ : ∃ R : Room, R = ({ frames := 3, cells := 0, slots := 0, locals := 103 } : Room) := ⟨_, rfl⟩
  rw [show (headSpec (wz yX9_keep cX9_keep 2 (some .int)) { frames := 3, cells := 0, slots := 0, locals := 103 }).room = R from hR.symm]
  refine ti_mi hx hb hr hlocks (fun Q ret => ?_)
  have hl := lv_entry [.ref a0, .int x1] (n := 2) (Nat.le_of_ble_eq_true rfl)
  rw [lg_entry_eq]
  generalize (lg_sl [.ref a0, .int x1] ++ List.replicate (2 - (lg_sl [.ref a0, .int x1]).length) Slot.unset).toArray = ls at hl ⊢
  have hl : lv_has ls 2 [(0, .ref a0), (1, .int x1)] := hl
  refine ti_gen (P := fun H => TI D vwCl (tysOf c0) (RTg ν) Y H ∧ (H = s.heap)) (Y := Y) (ws := [0, 1, 3, 7, 20, 22, 24, 28]) ⟨hT, rfl⟩ (fun H locs hT hS => ?_)
  obtain ⟨hT, hHs⟩ := hT
  refine lv_iload_n hx hb dX9_keep_0 rfl (lv_at hl 1 rfl) ?_
  refine lv_if_lt (tgt := 9) hx hb dX9_keep_1 (by decide) (fun c1 => ?_) (fun c1 => ?_)
  · skip
    have kl0 : (0 : Int32).toInt = 0 := by decide
    have f1 := i_lt c1
    have hx1_1l : iv x1 (-2147483648) (-1) := iv_ltl hx1 (iv_c (x := (0 : Int32)) (k := 0) (by decide)) c1 (by decide)
    refine lv_bipush (v := (-2)) hx hb dX9_keep_9 (by decide) ?_
    have klm2 : (-2 : Int32).toInt = (-2) := by decide
    exact ret _ _ _ _ _ dX9_keep_11 (⟨hT, iv_w (iv_c (x := (-2 : Int32)) (k := (-2)) (by decide)) (by decide), Or.inl ⟨by have b0a := (hx1_1l).1; have b0b := (hx1_1l).2; omega, by decide, fun kp j v _ h9 => by rw [hHs]; exact h9⟩⟩) hS
  · skip
    have kl0 : (0 : Int32).toInt = 0 := by decide
    have f1 := i_nlt c1
    have hx1_1r : iv x1 0 2147483647 := iv_ler (iv_c (x := (0 : Int32)) (k := 0) (by decide)) hx1 (Int32.not_lt.mp c1) (by decide)
    refine lv_iload_n hx hb dX9_keep_4 rfl (lv_at hl 1 rfl) ?_
    refine lv_iconst (v := 3) hx hb dX9_keep_5 (by decide) ?_
    refine lv_icmp_lt (tgt := 12) hx hb dX9_keep_6 (by decide) (fun c6 => ?_) (fun c6 => ?_)
    · skip
      have kl3 : (3 : Int32).toInt = 3 := by decide
      have f6 := i_lt c6
      have hx1_6l : iv x1 0 2 := iv_ltl hx1_1r (iv_c (x := (3 : Int32)) (k := 3) (by decide)) c6 (by decide)
      refine lv_aload_n hx hb dX9_keep_12 rfl (lv_at hl 0 rfl) ?_
      refine ti_getr hx hb hts inlX9 hown hK hT ha0 rfl rfl rfl 3 (by decide) (hts _ kw_22) (fun _ h9 => h9) rfl dX9_keep_13 (fun v13 hv13 hm13 => ?_)
      refine lv_iload_n hx hb dX9_keep_16 rfl (lv_at hl 1 rfl) ?_
      refine ti_aald hx hb (aT4 hK) hT hv13 rfl hx1_6l (by decide) (fun _ _ _ => rfl) dX9_keep_17 (fun v17 hv17 => ?_)
      refine lv_aload_n hx hb dX9_keep_18 rfl (lv_at hl 0 rfl) ?_
      refine ti_getr hx hb hts inlX9 hown hK hT ha0 rfl rfl rfl 1 (by decide) (hts _ kw_20) (fun _ h9 => h9) rfl dX9_keep_19 (fun v19 hv19 hm19 => ?_)
      refine ti_callv (va_runV (As := [.ref v19]) (rest := []) ⟨hx, hb, hml, hown, hts⟩ (t_X7_copyFrom l hT hv17 hv19) (cwV 1 hts (good_V kw_342 kw_343 kw_344 kw_19 kw_345) rfl rfl rfl (by decide +kernel) ⟨by rw [hR]; decide, by rw [hR]; decide⟩) (ti_preV hK hT hv17 rfl rfl) rfl rfl hl.1 rfl (lv_room (Nat.le_of_ble_eq_true rfl)) dX9_keep_22 ⟨Nat.zero_le _, Nat.zero_le _⟩) hS (pW_sub rfl) (fun H locs hB hS _ hk22 => ?_)
      have hT := hB
      refine lv_aload_n hx hb dX9_keep_25 rfl (lv_at hl 0 rfl) ?_
      refine ti_getr hx hb hts inlX9 hown hK hT ha0 rfl rfl rfl 4 (by decide) (hts _ kw_24) (fun _ h9 => h9) rfl dX9_keep_26 (fun v26 hv26 hm26 => ?_)
      refine lv_iload_n hx hb dX9_keep_29 rfl (lv_at hl 1 rfl) ?_
      refine lv_iconst (v := 1) hx hb dX9_keep_30 (by decide) ?_
      refine ti_zast hx hb (aT2 hK) hT hS hv26 rfl rfl hx1_6l (by decide) (fun _ _ _ => ⟨_, _, rfl, by decide, by decide⟩) (iv_w (iv_c (x := (1 : Int32)) (k := 1) (by decide)) (by decide)) (iv_c (x := (1 : Int32)) (k := 1) (by decide)) (fun _ _ => trivial) dX9_keep_31 (fun H locs hT hS oq31 he31 hk31 => ?_)
      refine lv_iconst (v := 0) hx hb dX9_keep_32 (by decide) ?_
      exact ret _ _ _ _ _ dX9_keep_33 (⟨hT, iv_w (iv_c (x := (0 : Int32)) (k := 0) (by decide)) (by decide), Or.inr ⟨⟨by have b0a := (hx1_6l).1; have b0b := (hx1_6l).2; omega, by have b0a := (hx1_6l).1; have b0b := (hx1_6l).2; omega⟩, by decide, fun kp hkp h9 => by
          rw [← hHs] at h9
          have e9 := fi_inj hm26 (h9.call hk22 (pW_not ha0 rfl)) (q := (RX9, TX9, 11)) rfl (by decide)
          cases e9
          exact ⟨he31, fun j v hj h8 => by
            rw [← hHs] at h8
            exact hk31 j v hj (h8.call hk22 (pW_not hkp rfl))⟩⟩⟩) hS
    · skip
      have kl3 : (3 : Int32).toInt = 3 := by decide
      have f6 := i_nlt c6
      have hx1_6r : iv x1 3 2147483647 := iv_ler (iv_c (x := (3 : Int32)) (k := 3) (by decide)) hx1_1r (Int32.not_lt.mp c6) (by decide)
      refine lv_bipush (v := (-2)) hx hb dX9_keep_9 (by decide) ?_
      have klm2 : (-2 : Int32).toInt = (-2) := by decide
      exact ret _ _ _ _ _ dX9_keep_11 (⟨hT, iv_w (iv_c (x := (-2 : Int32)) (k := (-2)) (by decide)) (by decide), Or.inl ⟨by have b0a := (hx1_6r).1; have b0b := (hx1_6r).2; omega, by decide, fun kp j v _ h9 => by rw [hHs]; exact h9⟩⟩) hS
set_option maxHeartbeats 4000000 in
set_option maxRecDepth 100000 in
theorem t_X9_back_x (l : Launch) {D : va_G} {c0 : Nat → ClassId} {Y : Nat → Option Nat} {ν : Nat → Nat} {H : Heap} (hT : TI D vwCl (tysOf c0) (RTg ν) Y H) {a0 : Nat} (ha0 : Y a0 = some 9) {x1 : Int32} (hx1 : iv x1 (-2147483648) 2147483647) : Met l yX9_back (wz yX9_back cX9_back 2 (some .int)) { frames := 3, cells := 0, slots := 0, locals := 103 } (TP D vwCl (tysOf c0) H [.ref a0, .int x1]) (TQi (fun x H' => TI D vwCl (tysOf c0) (RTg ν) Y H' ∧ iv x (-6) 0 ∧ (((¬ (0 ≤ x1.toInt ∧ x1.toInt ≤ 2) ∧ x.toInt = -2) ∨ ((0 ≤ x1.toInt ∧ x1.toInt ≤ 2) ∧ ∃ (kp : Nat) (v : Int32), fi D vwCl a0 9 4 (.ref kp) H ∧ am kp x1.toNatClampNeg (.int v) H ∧ ((v.toInt = 0 ∧ x.toInt = -6) ∨ (¬ v.toInt = 0 ∧ x.toInt = 0)))))) Y [0, 1, 3, 7, 20, 22, 28]) 0 0 (pW Y [0, 1, 3, 7, 20, 22, 28]) := by
  refine Met.ofW (cc := cX9_back) (maxL := 2) (ret := (some .int)) (by decide) rfl ?_
  intro p e s m args below meth c s₁ B hml hv
  obtain ⟨rfl, rfl, hK⟩ := hv
  have hx := B.exec
  have hb := B.bytes
  have hr := B.returns
  have hts : ∀ w ∈ wq, w.before _ s = true := fun w h => atoms_spec (ws := wz yX9_back cX9_back 2 (some .int)) B.pre w (List.mem_cons_of_mem _ h)
  have hown : s.vm.findClass RX9 = some m.cls := findClass_of_methodNamed B.named
  have hlocks := B.notSynchronized
  obtain ⟨R, hR⟩ : ∃ R : Room, R = ({ frames := 3, cells := 0, slots := 0, locals := 103 } : Room) := ⟨_, rfl⟩
  rw [show (headSpec (wz yX9_back cX9_back 2 (some .int)) { frames := 3, cells := 0, slots := 0, locals := 103 }).room = R from hR.symm]
  refine ti_mi hx hb hr hlocks (fun Q ret => ?_)
  have hl := lv_entry [.ref a0, .int x1] (n := 2) (Nat.le_of_ble_eq_true rfl)
  rw [lg_entry_eq]
  generalize (lg_sl [.ref a0, .int x1] ++ List.replicate (2 - (lg_sl [.ref a0, .int x1]).length) Slot.unset).toArray = ls at hl ⊢
  have hl : lv_has ls 2 [(0, .ref a0), (1, .int x1)] := hl
  refine ti_gen (P := fun H => TI D vwCl (tysOf c0) (RTg ν) Y H ∧ (H = s.heap)) (Y := Y) (ws := [0, 1, 3, 7, 20, 22, 28]) ⟨hT, rfl⟩ (fun H locs hT hS => ?_)
  obtain ⟨hT, hHs⟩ := hT
  refine lv_iload_n hx hb dX9_back_0 rfl (lv_at hl 1 rfl) ?_
  refine lv_if_lt (tgt := 9) hx hb dX9_back_1 (by decide) (fun c1 => ?_) (fun c1 => ?_)
  · skip
    have kl0 : (0 : Int32).toInt = 0 := by decide
    have f1 := i_lt c1
    have hx1_1l : iv x1 (-2147483648) (-1) := iv_ltl hx1 (iv_c (x := (0 : Int32)) (k := 0) (by decide)) c1 (by decide)
    refine lv_bipush (v := (-2)) hx hb dX9_back_9 (by decide) ?_
    have klm2 : (-2 : Int32).toInt = (-2) := by decide
    exact ret _ _ _ _ _ dX9_back_11 (⟨hT, iv_w (iv_c (x := (-2 : Int32)) (k := (-2)) (by decide)) (by decide), Or.inl ⟨by have b0a := (hx1_1l).1; have b0b := (hx1_1l).2; omega, by decide⟩⟩) hS
  · skip
    have kl0 : (0 : Int32).toInt = 0 := by decide
    have f1 := i_nlt c1
    have hx1_1r : iv x1 0 2147483647 := iv_ler (iv_c (x := (0 : Int32)) (k := 0) (by decide)) hx1 (Int32.not_lt.mp c1) (by decide)
    refine lv_iload_n hx hb dX9_back_4 rfl (lv_at hl 1 rfl) ?_
    refine lv_iconst (v := 3) hx hb dX9_back_5 (by decide) ?_
    refine lv_icmp_lt (tgt := 12) hx hb dX9_back_6 (by decide) (fun c6 => ?_) (fun c6 => ?_)
    · skip
      have kl3 : (3 : Int32).toInt = 3 := by decide
      have f6 := i_lt c6
      have hx1_6l : iv x1 0 2 := iv_ltl hx1_1r (iv_c (x := (3 : Int32)) (k := 3) (by decide)) c6 (by decide)
      refine lv_aload_n hx hb dX9_back_12 rfl (lv_at hl 0 rfl) ?_
      refine ti_getr hx hb hts inlX9 hown hK hT ha0 rfl rfl rfl 4 (by decide) (hts _ kw_24) (fun _ h9 => h9) rfl dX9_back_13 (fun v13 hv13 hm13 => ?_)
      refine lv_iload_n hx hb dX9_back_16 rfl (lv_at hl 1 rfl) ?_
      refine ti_zald (lo := 0) (hi := 1) hx hb (aT2 hK) hT hv13 rfl hx1_6l (by decide) (fun _ _ _ => ⟨_, _, rfl, by decide, by decide⟩) dX9_back_17 (fun v17 hv17 hm17 => ?_)
      have hrd : fi D vwCl a0 9 4 (.ref v13) s.heap ∧ am v13 x1.toNatClampNeg (.int v17) s.heap := by rw [← hHs]; exact ⟨hm13, hm17⟩
      refine lv_if_ne (tgt := 24) hx hb dX9_back_18 (by decide) (fun c18 => ?_) (fun c18 => ?_)
      · skip
        have f18 := i_ne c18
        have hv17_18l : iv v17 1 1 := iv_nel hv17 (iv_c (x := (0 : Int32)) (k := 0) (by decide)) c18 (by decide)
        refine lv_aload_n hx hb dX9_back_24 rfl (lv_at hl 0 rfl) ?_
        refine ti_getr hx hb hts inlX9 hown hK hT ha0 rfl rfl rfl 1 (by decide) (hts _ kw_20) (fun _ h9 => h9) rfl dX9_back_25 (fun v25 hv25 hm25 => ?_)
        refine lv_aload_n hx hb dX9_back_28 rfl (lv_at hl 0 rfl) ?_
        refine ti_getr hx hb hts inlX9 hown hK hT ha0 rfl rfl rfl 3 (by decide) (hts _ kw_22) (fun _ h9 => h9) rfl dX9_back_29 (fun v29 hv29 hm29 => ?_)
        refine lv_iload_n hx hb dX9_back_32 rfl (lv_at hl 1 rfl) ?_
        refine ti_aald hx hb (aT4 hK) hT hv29 rfl hx1_6l (by decide) (fun _ _ _ => rfl) dX9_back_33 (fun v33 hv33 => ?_)
        refine ti_callv (va_runV (As := [.ref v33]) (rest := []) ⟨hx, hb, hml, hown, hts⟩ (t_X7_copyFrom l hT hv25 hv33) (cwV 1 hts (good_V kw_342 kw_343 kw_344 kw_19 kw_345) rfl rfl rfl (by decide +kernel) ⟨by rw [hR]; decide, by rw [hR]; decide⟩) (ti_preV hK hT hv25 rfl rfl) rfl rfl hl.1 rfl (lv_room (Nat.le_of_ble_eq_true rfl)) dX9_back_34 ⟨Nat.zero_le _, Nat.zero_le _⟩) hS (pW_sub rfl) (fun H locs hB hS _ hk34 => ?_)
        have hT := hB
        refine lv_iconst (v := 0) hx hb dX9_back_37 (by decide) ?_
        exact ret _ _ _ _ _ dX9_back_38 (⟨hT, iv_w (iv_c (x := (0 : Int32)) (k := 0) (by decide)) (by decide), Or.inr ⟨⟨by have b0a := (hx1_6l).1; have b0b := (hx1_6l).2; have b1a := (hv17_18l).1; have b1b := (hv17_18l).2; omega, by have b0a := (hx1_6l).1; have b0b := (hx1_6l).2; have b1a := (hv17_18l).1; have b1b := (hv17_18l).2; omega⟩, v13, v17, hrd.1, hrd.2, Or.inr ⟨by have b0a := (hx1_6l).1; have b0b := (hx1_6l).2; have b1a := (hv17_18l).1; have b1b := (hv17_18l).2; omega, by decide⟩⟩⟩) hS
      · skip
        have f18 := i_eq c18
        have hv17_18l : iv v17 0 0 := iv_eql hv17 (iv_c (x := (0 : Int32)) (k := 0) (by decide)) c18 (by decide)
        refine lv_bipush (v := (-6)) hx hb dX9_back_21 (by decide) ?_
        have klm6 : (-6 : Int32).toInt = (-6) := by decide
        exact ret _ _ _ _ _ dX9_back_23 (⟨hT, iv_w (iv_c (x := (-6 : Int32)) (k := (-6)) (by decide)) (by decide), Or.inr ⟨⟨by have b0a := (hx1_6l).1; have b0b := (hx1_6l).2; have b1a := (hv17_18l).1; have b1b := (hv17_18l).2; omega, by have b0a := (hx1_6l).1; have b0b := (hx1_6l).2; have b1a := (hv17_18l).1; have b1b := (hv17_18l).2; omega⟩, v13, v17, hrd.1, hrd.2, Or.inl ⟨by have b0a := (hx1_6l).1; have b0b := (hx1_6l).2; have b1a := (hv17_18l).1; have b1b := (hv17_18l).2; omega, by decide⟩⟩⟩) hS
    · skip
      have kl3 : (3 : Int32).toInt = 3 := by decide
      have f6 := i_nlt c6
      have hx1_6r : iv x1 3 2147483647 := iv_ler (iv_c (x := (3 : Int32)) (k := 3) (by decide)) hx1_1r (Int32.not_lt.mp c6) (by decide)
      refine lv_bipush (v := (-2)) hx hb dX9_back_9 (by decide) ?_
      have klm2 : (-2 : Int32).toInt = (-2) := by decide
      exact ret _ _ _ _ _ dX9_back_11 (⟨hT, iv_w (iv_c (x := (-2 : Int32)) (k := (-2)) (by decide)) (by decide), Or.inl ⟨by have b0a := (hx1_6r).1; have b0b := (hx1_6r).2; omega, by decide⟩⟩) hS
set_option maxHeartbeats 4000000 in
set_option maxRecDepth 100000 in
theorem t_X10_in_x (l : Launch) {D : va_G} {c0 : Nat → ClassId} {Y : Nat → Option Nat} {ν : Nat → Nat} {H : Heap} (hT : TI D vwCl (tysOf c0) (RTg ν) Y H) {x0 : Int64} (hx0 : jv x0 (-9223372036854775808) 9223372036854775807) {x1 : Int64} (hx1 : jv x1 (-1) 97) {x2 : Int64} (hx2 : jv x2 (-2147483648) 2000000000) : Met l yX10_in (wz yX10_in cX10_in 6 (some .boolean)) { frames := 0, cells := 0, slots := 0, locals := 0 } (TP D vwCl (tysOf c0) H [.long x0, .long x1, .long x2]) (TQi (fun x H' => H' = H ∧ iv x 0 1 ∧ ((((x1.toInt ≤ x0.toInt ∧ x0.toInt ≤ x2.toInt) ∧ x.toInt = 1) ∨ (¬ (x1.toInt ≤ x0.toInt ∧ x0.toInt ≤ x2.toInt) ∧ x.toInt = 0)))) Y []) 0 0 (pW Y []) := by
  refine Met.ofW (cc := cX10_in) (maxL := 6) (ret := (some .boolean)) (by decide) rfl ?_
  intro p e s m args below meth c s₁ B hml hv
  obtain ⟨rfl, rfl, hK⟩ := hv
  have hx := B.exec
  have hb := B.bytes
  have hr := B.returns
  have hts : ∀ w ∈ wq, w.before _ s = true := fun w h => atoms_spec (ws := wz yX10_in cX10_in 6 (some .boolean)) B.pre w (List.mem_cons_of_mem _ h)
  have hown : s.vm.findClass RX10 = some m.cls := findClass_of_methodNamed B.named
  have hlocks := B.notSynchronized
  obtain ⟨R, hR⟩ : ∃ R : Room, R = ({ frames := 0, cells := 0, slots := 0, locals := 0 } : Room) := ⟨_, rfl⟩
  rw [show (headSpec (wz yX10_in cX10_in 6 (some .boolean)) { frames := 0, cells := 0, slots := 0, locals := 0 }).room = R from hR.symm]
  refine ti_mz hx hb hr hlocks (fun Q ret => ?_)
  have hl := lv_entry [.long x0, .long x1, .long x2] (n := 6) (Nat.le_of_ble_eq_true rfl)
  rw [lg_entry_eq]
  generalize (lg_sl [.long x0, .long x1, .long x2] ++ List.replicate (6 - (lg_sl [.long x0, .long x1, .long x2]).length) Slot.unset).toArray = ls at hl ⊢
  have hl : lv_has ls 6 [(0, .long x0), (2, .long x1), (4, .long x2)] := hl
  have hS : va_S (pW Y []) s.heap s.heap [] := va_S.rf
  refine lv_lload_n hx hb dX10_in_0 rfl (lv_at hl 0 rfl) ?_
  refine lv_lload_n hx hb dX10_in_1 rfl (lv_at hl 1 rfl) ?_
  refine W.lcmp hx hb dX10_in_2 ?_
  refine lv_if_lt (tgt := 17) hx hb dX10_in_3 (by decide) (fun c3 => ?_) (fun c3 => ?_)
  · skip
    have kl0 : (0 : Int32).toInt = 0 := by decide
    have f3 := jc_lt c3
    have hx0_3a : jv x0 (-9223372036854775808) 96 := by have b0a := (hx0).1; have b0b := (hx0).2; have b1a := (hx1).1; have b1b := (hx1).2; exact ⟨by omega, by omega⟩
    refine lv_iconst (v := 0) hx hb dX10_in_17 (by decide) ?_
    exact ret _ _ _ _ _ dX10_in_18 (iv_w (iv_c (x := (0 : Int32)) (k := 0) (by decide)) (by decide)) (⟨rfl, iv_w (iv_c (x := (0 : Int32)) (k := 0) (by decide)) (by decide), by have b0a := (hx0_3a).1; have b0b := (hx0_3a).2; have b1a := (hx1).1; have b1b := (hx1).2; have b2a := (hx2).1; have b2b := (hx2).2; omega⟩) hS
  · skip
    have kl0 : (0 : Int32).toInt = 0 := by decide
    have f3 := jc_nlt c3
    have hx0_3a : jv x0 (-1) 9223372036854775807 := by have b0a := (hx0).1; have b0b := (hx0).2; have b1a := (hx1).1; have b1b := (hx1).2; exact ⟨by omega, by omega⟩
    refine lv_lload_n hx hb dX10_in_6 rfl (lv_at hl 0 rfl) ?_
    refine lv_lload hx hb dX10_in_7 (lv_at hl 2 rfl) ?_
    refine W.lcmp hx hb dX10_in_9 ?_
    refine lv_if_gt (tgt := 17) hx hb dX10_in_10 (by decide) (fun c10 => ?_) (fun c10 => ?_)
    · skip
      have f10 := jc_gt c10
      refine lv_iconst (v := 0) hx hb dX10_in_17 (by decide) ?_
      exact ret _ _ _ _ _ dX10_in_18 (iv_w (iv_c (x := (0 : Int32)) (k := 0) (by decide)) (by decide)) (⟨rfl, iv_w (iv_c (x := (0 : Int32)) (k := 0) (by decide)) (by decide), by have b0a := (hx0_3a).1; have b0b := (hx0_3a).2; have b1a := (hx1).1; have b1b := (hx1).2; have b2a := (hx2).1; have b2b := (hx2).2; omega⟩) hS
    · skip
      have f10 := jc_ngt c10
      have hx0_10a : jv x0 (-1) 2000000000 := by have b0a := (hx0_3a).1; have b0b := (hx0_3a).2; have b1a := (hx2).1; have b1b := (hx2).2; exact ⟨by omega, by omega⟩
      have hx2_10b : jv x2 (-1) 2000000000 := by have b0a := (hx0_10a).1; have b0b := (hx0_10a).2; have b1a := (hx2).1; have b1b := (hx2).2; exact ⟨by omega, by omega⟩
      refine lv_iconst (v := 1) hx hb dX10_in_13 (by decide) ?_
      refine lv_goto (tgt := 18) hx hb dX10_in_14 (by decide) ?_
      have kl1 : (1 : Int32).toInt = 1 := by decide
      exact ret _ _ _ _ _ dX10_in_18 (iv_w (iv_c (x := (1 : Int32)) (k := 1) (by decide)) (by decide)) (⟨rfl, iv_w (iv_c (x := (1 : Int32)) (k := 1) (by decide)) (by decide), by have b0a := (hx0_10a).1; have b0b := (hx0_10a).2; have b1a := (hx1).1; have b1b := (hx1).2; have b2a := (hx2_10b).1; have b2b := (hx2_10b).2; omega⟩) hS
set_option maxHeartbeats 4000000 in
set_option maxRecDepth 100000 in
theorem t_X10_keep_x (l : Launch) {D : va_G} {c0 : Nat → ClassId} {Y : Nat → Option Nat} {ν : Nat → Nat} {H : Heap} (hT : TI D vwCl (tysOf c0) (RTg ν) Y H) {a0 : Nat} (ha0 : Y a0 = some 10) {x1 : Int32} (hx1 : iv x1 (-2147483648) 2147483647) (hU : uq Y) : Met l yX10_keep (wz yX10_keep cX10_keep 3 (some .int)) { frames := 1, cells := 0, slots := 0, locals := 25 } (TP D vwCl (tysOf c0) H [.ref a0, .int x1]) (TQi (fun x H' => (∃ ν' : Nat → Nat, (∀ j, 3 ≤ j → ν' j = ν j) ∧ (∀ j, j < 3 → ν' j = if (0 ≤ x1.toInt ∧ x1.toInt ≤ 2) ∧ j = x1.toNatClampNeg then 178 else ν j) ∧ TI D vwCl (tysOf c0) (RTg ν') Y H') ∧ iv x (-2) 0) Y [31, 32, 33]) 0 0 (pW Y [31, 32, 33]) := by
  refine Met.ofW (cc := cX10_keep) (maxL := 3) (ret := (some .int)) (by decide) rfl ?_
  intro p e s m args below meth c s₁ B hml hv
  obtain ⟨rfl, rfl, hK⟩ := hv
  have hx := B.exec
  have hb := B.bytes
  have hr := B.returns
  have hts : ∀ w ∈ wq, w.before _ s = true := fun w h => atoms_spec (ws := wz yX10_keep cX10_keep 3 (some .int)) B.pre w (List.mem_cons_of_mem _ h)
  have hown : s.vm.findClass RX10 = some m.cls := findClass_of_methodNamed B.named
  have hlocks := B.notSynchronized
  obtain ⟨R, hR⟩ : ∃ R : Room, R = ({ frames := 1, cells := 0, slots := 0, locals := 25 } : Room) := ⟨_, rfl⟩
  rw [show (headSpec (wz yX10_keep cX10_keep 3 (some .int)) { frames := 1, cells := 0, slots := 0, locals := 25 }).room = R from hR.symm]
  refine ti_mi hx hb hr hlocks (fun Q ret => ?_)
  have hl := lv_entry [.ref a0, .int x1] (n := 3) (Nat.le_of_ble_eq_true rfl)
  rw [lg_entry_eq]
  generalize (lg_sl [.ref a0, .int x1] ++ List.replicate (3 - (lg_sl [.ref a0, .int x1]).length) Slot.unset).toArray = ls at hl ⊢
  have hl : lv_has ls 3 [(0, .ref a0), (1, .int x1)] := hl
  refine ti_gen (P := fun H => TI D vwCl (tysOf c0) (RTg ν) Y H) (Y := Y) (ws := [31, 32, 33]) hT (fun H locs hT hS => ?_)
  refine lv_iload_n hx hb dX10_keep_0 rfl (lv_at hl 1 rfl) ?_
  refine lv_i2l hx hb dX10_keep_1 rfl ?_
  refine lv_topl (fun v1 e1 => ?_)
  have hv1 : jv v1 (-2147483648) 2147483647 := by rw [e1]; exact jv_i hx1
  have t1 : v1.toInt = x1.toInt := by rw [e1]; exact jv_e _
  refine lv_lconst (v := 0) hx hb dX10_keep_2 (by decide) ?_
  have kj0 : (0 : Int64).toInt = 0 := by decide
  refine lv_ldc2 (v := 2) hx hb hown (hts _ kw_1218) dX10_keep_3 ?_
  have kj2 : (2 : Int64).toInt = 2 := by decide
  refine ti_calli (va_runS (As := [.long v1, .long (0 : Int64), .long (2 : Int64)]) (rest := []) ⟨hx, hb, hml, hown, hts⟩ (t_X10_in_x l hT (jv_w hv1 (by decide)) (jv_w (jv_c (x := (0 : Int64)) (k := 0) (by decide)) (by decide)) (jv_w (jv_c (x := (2 : Int64)) (k := 2) (by decide)) (by decide))) (cwS 3 hts (good_S kw_181 kw_182 kw_5 kw_183) rfl rfl rfl (by decide +kernel) ⟨by rw [hR]; decide, by rw [hR]; decide⟩) (ti_preS hK) rfl rfl hl.1 rfl (lv_room (Nat.le_of_ble_eq_true rfl)) dX10_keep_6 ⟨Nat.zero_le _, Nat.zero_le _⟩) hS (pW_sub rfl) (fun v6 H1 locs hB hS _ hk6 => ?_)
  obtain ⟨hH, hv6, hp6⟩ := hB
  rw [hH] at hS ⊢
  refine lv_if_ne (tgt := 15) hx hb dX10_keep_9 (by decide) (fun c9 => ?_) (fun c9 => ?_)
  · skip
    have kl0 : (0 : Int32).toInt = 0 := by decide
    have f9 := i_ne c9
    have hv6_9l : iv v6 1 1 := iv_nel hv6 (iv_c (x := (0 : Int32)) (k := 0) (by decide)) c9 (by decide)
    have hv1_9p : jv v1 0 2 := by have b0a := (hv1).1; have b0b := (hv1).2; have b1a := ((jv_c (x := (0 : Int64)) (k := 0) (by decide))).1; have b1b := ((jv_c (x := (0 : Int64)) (k := 0) (by decide))).2; have b2a := ((jv_c (x := (2 : Int64)) (k := 2) (by decide))).1; have b2b := ((jv_c (x := (2 : Int64)) (k := 2) (by decide))).2; exact ⟨by omega, by omega⟩
    have hx1_9p : iv x1 0 2 := by have := t1; have b0a := (hv1_9p).1; have b0b := (hv1_9p).2; have b1a := (hx1).1; have b1b := (hx1).2; exact ⟨by omega, by omega⟩
    refine lv_iconst (v := 0) hx hb dX10_keep_15 (by decide) ?_
    have J17 : ∀ (n : Nat) (j17_L2 : Int32) (H : Heap) (locs : List Loc) (ls : Array Slot), (178 - j17_L2.toInt).toNat < n → iv j17_L2 0 178 → (∀ q, Y q = some 31 → ∀ j : Nat, j < j17_L2.toNatClampNeg → ∃ v : Value, am q (178 * x1.toNatClampNeg + j) v H ∧ gm Y (wfg j) v) → TI D vwCl (tysOf c0) (RTg ν) Y H → va_S (pW Y [31, 32, 33]) s.heap H locs → lv_has ls 3 [(0, .ref a0), (1, .int x1), (2, .int j17_L2)] → W p l e R s m ([.ref a0, .int x1] : List Value).toArray below meth c H locs 0 0 Q (F0 m 17 ls []) := by
      intro n
      induction n with
      | zero => intro j17_L2 H locs ls hms; exact absurd hms (Nat.not_lt_zero _)
      | succ n ih17 =>
        intro j17_L2 H locs ls hms17 hj17_L2 hX17_0 hT hS hl
        refine lv_iload_n hx hb dX10_keep_17 rfl (lv_at hl 2 rfl) ?_
        refine lv_sipush (v := 178) hx hb dX10_keep_18 (by decide) ?_
        refine lv_icmp_ge (tgt := 48) hx hb dX10_keep_21 (by decide) (fun c21 => ?_) (fun c21 => ?_)
        · skip
          have kl178 : (178 : Int32).toInt = 178 := by decide
          have f21 := i_le c21
          have hj17_L2_21r : iv j17_L2 178 178 := iv_ler (iv_c (x := (178 : Int32)) (k := 178) (by decide)) hj17_L2 c21 (by decide)
          refine lv_aload_n hx hb dX10_keep_48 rfl (lv_at hl 0 rfl) ?_
          refine ti_getr hx hb hts inlX10 hown hK hT ha0 rfl rfl rfl 3 (by decide) (hts _ kw_132) (fun _ h9 => h9) rfl dX10_keep_49 (fun v49 hv49 hm49 => ?_)
          refine lv_iload_n hx hb dX10_keep_52 rfl (lv_at hl 1 rfl) ?_
          refine lv_aload_n hx hb dX10_keep_53 rfl (lv_at hl 0 rfl) ?_
          refine ti_getl hx hb hts inlX10 hown hK hT ha0 rfl rfl rfl 16 (by decide) (hts _ kw_382) (fun _ h9 => h9) rfl dX10_keep_54 (fun v54 hm54 => ?_)
          refine ti_last hx hb (aT3 hK) hT hS hv49 rfl rfl hx1_9p (by decide) (fun _ _ _ => rfl)  (fun _ _ => trivial) dX10_keep_57 (fun H locs hT hS oq57 he57 hk57 => ?_)
          refine lv_aload_n hx hb dX10_keep_58 rfl (lv_at hl 0 rfl) ?_
          refine ti_getr hx hb hts inlX10 hown hK hT ha0 rfl rfl rfl 4 (by decide) (hts _ kw_133) (fun _ h9 => h9) rfl dX10_keep_59 (fun v59 hv59 hm59 => ?_)
          refine lv_iload_n hx hb dX10_keep_62 rfl (lv_at hl 1 rfl) ?_
          refine lv_iconst (v := 1) hx hb dX10_keep_63 (by decide) ?_
          have hinv : ∀ q, Y q = some 31 → ∀ j : Nat, j < 178 → ∃ v : Value, am q (178 * x1.toNatClampNeg + j) v H ∧ gm Y (wfg j) v := fun q hq j hj => by
            obtain ⟨v, g1, g2⟩ := hX17_0 q hq j (by have b0a := (hx1_9p).1; have b0b := (hx1_9p).2; have b1a := (hv1_9p).1; have b1b := (hv1_9p).2; have b2a := (hv6_9l).1; have b2b := (hv6_9l).2; have b3a := (hj17_L2_21r).1; have b3b := (hj17_L2_21r).2; have b4a := ((jv_top v54)).1; have b4b := ((jv_top v54)).2; show j < j17_L2.toInt.toNat; omega)
            exact ⟨v, g1.kept (oq57 _ (ne_r hq hv49 rfl)), g2⟩
          refine xzst hx hb (aT2 hK) hT hS hv59 rfl rfl hx1_9p (by decide) (iv_w (iv_c (x := (1 : Int32)) (k := 1) (by decide)) (by decide)) dX10_keep_64 (fun cA ty f H locs hc hf _ he hS ob => ?_)
          have hT := keep_put hU hT hv59 (by have b0a := (hx1_9p).1; have b0b := (hx1_9p).2; have b1a := (hv1_9p).1; have b1b := (hv1_9p).2; have b2a := (hv6_9l).1; have b2b := (hv6_9l).2; have b3a := (hj17_L2_21r).1; have b3b := (hj17_L2_21r).2; have b4a := ((jv_top v54)).1; have b4b := ((jv_top v54)).2; show x1.toInt.toNat < 3; omega) hc hf (iv_c (x := (1 : Int32)) (k := 1) (by decide)) he ob hinv
          refine lv_iconst (v := 0) hx hb dX10_keep_65 (by decide) ?_
          exact ret _ _ _ _ _ dX10_keep_66 (⟨⟨_, fun j h9 => by show (if j = x1.toNatClampNeg then 178 else ν j) = ν j; rw [if_neg (by have b0a := (hx1_9p).1; have b0b := (hx1_9p).2; have b1a := (hv1_9p).1; have b1b := (hv1_9p).2; have b2a := (hv6_9l).1; have b2b := (hv6_9l).2; have b3a := (hj17_L2_21r).1; have b3b := (hj17_L2_21r).2; have b4a := ((jv_top v54)).1; have b4b := ((jv_top v54)).2; show ¬ j = x1.toInt.toNat; omega)], fun j h9 => by show (if j = x1.toNatClampNeg then 178 else ν j) = _; by_cases q9 : j = x1.toNatClampNeg; (rw [if_pos q9, if_pos ⟨⟨by have b0a := (hx1_9p).1; have b0b := (hx1_9p).2; have b1a := (hv1_9p).1; have b1b := (hv1_9p).2; have b2a := (hv6_9l).1; have b2b := (hv6_9l).2; have b3a := (hj17_L2_21r).1; have b3b := (hj17_L2_21r).2; have b4a := ((jv_top v54)).1; have b4b := ((jv_top v54)).2; omega, by have b0a := (hx1_9p).1; have b0b := (hx1_9p).2; have b1a := (hv1_9p).1; have b1b := (hv1_9p).2; have b2a := (hv6_9l).1; have b2b := (hv6_9l).2; have b3a := (hj17_L2_21r).1; have b3b := (hj17_L2_21r).2; have b4a := ((jv_top v54)).1; have b4b := ((jv_top v54)).2; omega⟩, q9⟩]); (rw [if_neg q9, if_neg (fun z => q9 z.2)]), hT⟩, iv_w (iv_c (x := (0 : Int32)) (k := 0) (by decide)) (by decide)⟩) hS
        · skip
          have kl178 : (178 : Int32).toInt = 178 := by decide
          have f21 := i_nle c21
          have hj17_L2_21l : iv j17_L2 0 177 := iv_ltl hj17_L2 (iv_c (x := (178 : Int32)) (k := 178) (by decide)) (Int32.not_le.mp c21) (by decide)
          refine lv_aload_n hx hb dX10_keep_24 rfl (lv_at hl 0 rfl) ?_
          refine ti_getr hx hb hts inlX10 hown hK hT ha0 rfl rfl rfl 2 (by decide) (hts _ kw_131) (fun _ h9 => h9) rfl dX10_keep_25 (fun v25 hv25 hm25 => ?_)
          refine lv_sipush (v := 178) hx hb dX10_keep_28 (by decide) ?_
          refine lv_iload_n hx hb dX10_keep_31 rfl (lv_at hl 1 rfl) ?_
          refine lv_imul hx hb dX10_keep_32 ?_
          refine lv_topi (fun v32 e32 => ?_)
          have hv32 : iv v32 0 356 := by rw [e32]; exact iv_mul (iv_c (x := (178 : Int32)) (k := 178) (by decide)) hx1_9p (by decide)
          have s32 : v32.toInt = (178 : Int32).toInt * x1.toInt := by rw [e32]; exact iv_mulE (iv_c (x := (178 : Int32)) (k := 178) (by decide)) hx1_9p (by decide)
          have s32 : v32.toInt = 178 * x1.toInt := by rw [s32]; simp only [show (178 : Int32).toInt = 178 from by decide]; try omega
          refine lv_iload_n hx hb dX10_keep_33 rfl (lv_at hl 2 rfl) ?_
          refine lv_iadd hx hb dX10_keep_34 ?_
          refine lv_topi (fun v34 e34 => ?_)
          have hv34 : iv v34 0 533 := by rw [e34]; exact iv_w (iv_add hv32 hj17_L2_21l (by decide)) (by decide)
          have s34 : v34.toInt = v32.toInt + j17_L2.toInt := by rw [e34]; exact iv_addE hv32 hj17_L2_21l (by decide)
          refine lv_aload_n hx hb dX10_keep_35 rfl (lv_at hl 0 rfl) ?_
          refine ti_getr hx hb hts inlX10 hown hK hT ha0 rfl rfl rfl 1 (by decide) (hts _ kw_130) (fun _ h9 => h9) rfl dX10_keep_36 (fun v36 hv36 hm36 => ?_)
          refine lv_iload_n hx hb dX10_keep_39 rfl (lv_at hl 2 rfl) ?_
          refine ti_ialdD hx hb (aT0 hK) hT hv36 rfl hj17_L2_21l (by decide) (fun j => wfg_i j) dX10_keep_40 (fun v40 dv40 hm40 => ?_)
          refine ti_iastD hx hb (aT0 hK) hT hS hv25 rfl rfl hv34 (by decide) (img_p (k := x1.toNatClampNeg) (i := j17_L2.toNatClampNeg) dv40 (by have b0a := (hx1_9p).1; have b0b := (hx1_9p).2; have b1a := (hv1_9p).1; have b1b := (hv1_9p).2; have b2a := (hv6_9l).1; have b2b := (hv6_9l).2; have b3a := (hj17_L2_21l).1; have b3b := (hj17_L2_21l).2; have b4a := (hv32).1; have b4b := (hv32).2; have b5a := (hv34).1; have b5b := (hv34).2; have b6a := ((iv_top v40)).1; have b6b := ((iv_top v40)).2; show v34.toInt.toNat = 178 * x1.toInt.toNat + j17_L2.toInt.toNat; omega) (by have b0a := (hx1_9p).1; have b0b := (hx1_9p).2; have b1a := (hv1_9p).1; have b1b := (hv1_9p).2; have b2a := (hv6_9l).1; have b2b := (hv6_9l).2; have b3a := (hj17_L2_21l).1; have b3b := (hj17_L2_21l).2; have b4a := (hv32).1; have b4b := (hv32).2; have b5a := (hv34).1; have b5b := (hv34).2; have b6a := ((iv_top v40)).1; have b6b := ((iv_top v40)).2; show j17_L2.toInt.toNat < 178; omega)) (fun _ _ => trivial) dX10_keep_41 (fun H locs hT hS oq41 he41 hk41 => ?_)
          obtain ⟨v42, e42⟩ : ∃ y : Int32, y = j17_L2 + 1 := ⟨_, rfl⟩
          have hv42 : iv v42 1 178 := by rw [e42]; exact iv_w (iv_add hj17_L2_21l (iv_c (x := (1 : Int32)) (k := 1) (by decide)) (by decide)) (by decide)
          have s42 : v42.toInt = j17_L2.toInt + 1 := by rw [e42, iv_addE hj17_L2_21l (iv_c (x := (1 : Int32)) (k := 1) (by decide)) (by decide)]; rfl
          refine lv_iinc (v := v42) (lv' := [(2, .int v42), (0, .ref a0), (1, .int x1)]) hx hb dX10_keep_42 hl (k := 2) rfl (by rw [e42]; rfl) (by decide) rfl (fun ls hl => ?_)
          refine lv_goto (tgt := 17) hx hb dX10_keep_45 (by decide) ?_
          exact ih17 v42 _ _ _ (ms_up hms17 (by have := s42; omega) (iv_w (c := 1) (d := 178) hv42 (by decide)).2) (iv_w hv42 (by decide)) (fun q hq => by
            have e9 := hU 31 q v25 (by decide) hq hv25
            subst e9
            exact cpy_step (hX17_0 _ hq) he41 hk41 (by have b0a := (hx1_9p).1; have b0b := (hx1_9p).2; have b1a := (hv1_9p).1; have b1b := (hv1_9p).2; have b2a := (hv6_9l).1; have b2b := (hv6_9l).2; have b3a := (hj17_L2_21l).1; have b3b := (hj17_L2_21l).2; have b4a := (hv32).1; have b4b := (hv32).2; have b5a := (hv34).1; have b5b := (hv34).2; have b6a := ((iv_top v40)).1; have b6b := ((iv_top v40)).2; have b7a := (hv42).1; have b7b := (hv42).2; show v34.toInt.toNat = 178 * x1.toInt.toNat + j17_L2.toInt.toNat; omega) (by have b0a := (hx1_9p).1; have b0b := (hx1_9p).2; have b1a := (hv1_9p).1; have b1b := (hv1_9p).2; have b2a := (hv6_9l).1; have b2b := (hv6_9l).2; have b3a := (hj17_L2_21l).1; have b3b := (hj17_L2_21l).2; have b4a := (hv32).1; have b4b := (hv32).2; have b5a := (hv34).1; have b5b := (hv34).2; have b6a := ((iv_top v40)).1; have b6b := ((iv_top v40)).2; have b7a := (hv42).1; have b7b := (hv42).2; show v42.toInt.toNat = j17_L2.toInt.toNat + 1; omega) dv40) hT hS (lv_sub hl [1, 2, 0] rfl)
    refine lv_istore_n (lv' := [(2, .int (0 : Int32)), (0, .ref a0), (1, .int x1)]) hx hb dX10_keep_16 rfl hl (by decide) rfl (fun ls hl => ?_)
    exact J17 _ (0 : Int32) _ _ _ (Nat.lt_succ_self _) (iv_w (iv_c (x := (0 : Int32)) (k := 0) (by decide)) (by decide)) (fun q hq j hj => absurd hj nlt0) hT hS (lv_sub hl [1, 2, 0] rfl)
  · skip
    have kl0 : (0 : Int32).toInt = 0 := by decide
    have f9 := i_eq c9
    have hv6_9l : iv v6 0 0 := iv_eql hv6 (iv_c (x := (0 : Int32)) (k := 0) (by decide)) c9 (by decide)
    refine lv_bipush (v := (-2)) hx hb dX10_keep_12 (by decide) ?_
    exact ret _ _ _ _ _ dX10_keep_14 (⟨⟨ν, fun j h9 => rfl, fun j h9 => (if_neg (fun q9 => absurd q9.1 (by have b0a := (hx1).1; have b0b := (hx1).2; have b1a := (hv1).1; have b1b := (hv1).2; have b2a := (hv6_9l).1; have b2b := (hv6_9l).2; omega))).symm, hT⟩, iv_w (iv_c (x := (-2 : Int32)) (k := (-2)) (by decide)) (by decide)⟩) hS
set_option maxHeartbeats 4000000 in
set_option maxRecDepth 100000 in
theorem t_X10_back_x (l : Launch) {D : va_G} {c0 : Nat → ClassId} {Y : Nat → Option Nat} {ν : Nat → Nat} {H : Heap} (hT : TI D vwCl (tysOf c0) (RTg ν) Y H) {a0 : Nat} (ha0 : Y a0 = some 10) {x1 : Int32} (hx1 : iv x1 (-2147483648) 2147483647) (hU : uq Y) : Met l yX10_back (wz yX10_back cX10_back 3 (some .int)) { frames := 1, cells := 0, slots := 0, locals := 25 } (TP D vwCl (tysOf c0) H [.ref a0, .int x1]) (TQi (fun x H' => TI D vwCl (tysOf c0) (RTg ν) Y H' ∧ iv x (-6) 0 ∧ (((¬ (0 ≤ x1.toInt ∧ x1.toInt ≤ 2) ∧ x.toInt = -2) ∨ ((0 ≤ x1.toInt ∧ x1.toInt ≤ 2) ∧ ν x1.toNatClampNeg = 178 ∧ x.toInt = 0) ∨ ((0 ≤ x1.toInt ∧ x1.toInt ≤ 2) ∧ ¬ ν x1.toNatClampNeg = 178 ∧ x.toInt = -6)))) Y [10, 30]) 0 0 (pW Y [10, 30]) := by
  refine Met.ofW (cc := cX10_back) (maxL := 3) (ret := (some .int)) (by decide) rfl ?_
  intro p e s m args below meth c s₁ B hml hv
  obtain ⟨rfl, rfl, hK⟩ := hv
  have hx := B.exec
  have hb := B.bytes
  have hr := B.returns
  have hts : ∀ w ∈ wq, w.before _ s = true := fun w h => atoms_spec (ws := wz yX10_back cX10_back 3 (some .int)) B.pre w (List.mem_cons_of_mem _ h)
  have hown : s.vm.findClass RX10 = some m.cls := findClass_of_methodNamed B.named
  have hlocks := B.notSynchronized
  obtain ⟨R, hR⟩ : ∃ R : Room, R = ({ frames := 1, cells := 0, slots := 0, locals := 25 } : Room) := ⟨_, rfl⟩
  rw [show (headSpec (wz yX10_back cX10_back 3 (some .int)) { frames := 1, cells := 0, slots := 0, locals := 25 }).room = R from hR.symm]
  refine ti_mi hx hb hr hlocks (fun Q ret => ?_)
  have hl := lv_entry [.ref a0, .int x1] (n := 3) (Nat.le_of_ble_eq_true rfl)
  rw [lg_entry_eq]
  generalize (lg_sl [.ref a0, .int x1] ++ List.replicate (3 - (lg_sl [.ref a0, .int x1]).length) Slot.unset).toArray = ls at hl ⊢
  have hl : lv_has ls 3 [(0, .ref a0), (1, .int x1)] := hl
  refine ti_gen (P := fun H => TI D vwCl (tysOf c0) (RTg ν) Y H) (Y := Y) (ws := [10, 30]) hT (fun H locs hT hS => ?_)
  refine lv_iload_n hx hb dX10_back_0 rfl (lv_at hl 1 rfl) ?_
  refine lv_i2l hx hb dX10_back_1 rfl ?_
  refine lv_topl (fun v1 e1 => ?_)
  have hv1 : jv v1 (-2147483648) 2147483647 := by rw [e1]; exact jv_i hx1
  have t1 : v1.toInt = x1.toInt := by rw [e1]; exact jv_e _
  refine lv_lconst (v := 0) hx hb dX10_back_2 (by decide) ?_
  have kj0 : (0 : Int64).toInt = 0 := by decide
  refine lv_ldc2 (v := 2) hx hb hown (hts _ kw_1218) dX10_back_3 ?_
  have kj2 : (2 : Int64).toInt = 2 := by decide
  refine ti_calli (va_runS (As := [.long v1, .long (0 : Int64), .long (2 : Int64)]) (rest := []) ⟨hx, hb, hml, hown, hts⟩ (t_X10_in_x l hT (jv_w hv1 (by decide)) (jv_w (jv_c (x := (0 : Int64)) (k := 0) (by decide)) (by decide)) (jv_w (jv_c (x := (2 : Int64)) (k := 2) (by decide)) (by decide))) (cwS 3 hts (good_S kw_181 kw_182 kw_5 kw_183) rfl rfl rfl (by decide +kernel) ⟨by rw [hR]; decide, by rw [hR]; decide⟩) (ti_preS hK) rfl rfl hl.1 rfl (lv_room (Nat.le_of_ble_eq_true rfl)) dX10_back_6 ⟨Nat.zero_le _, Nat.zero_le _⟩) hS (pW_sub rfl) (fun v6 H1 locs hB hS _ hk6 => ?_)
  obtain ⟨hH, hv6, hp6⟩ := hB
  rw [hH] at hS ⊢
  refine lv_if_ne (tgt := 15) hx hb dX10_back_9 (by decide) (fun c9 => ?_) (fun c9 => ?_)
  · skip
    have kl0 : (0 : Int32).toInt = 0 := by decide
    have f9 := i_ne c9
    have hv6_9l : iv v6 1 1 := iv_nel hv6 (iv_c (x := (0 : Int32)) (k := 0) (by decide)) c9 (by decide)
    have hv1_9p : jv v1 0 2 := by have b0a := (hv1).1; have b0b := (hv1).2; have b1a := ((jv_c (x := (0 : Int64)) (k := 0) (by decide))).1; have b1b := ((jv_c (x := (0 : Int64)) (k := 0) (by decide))).2; have b2a := ((jv_c (x := (2 : Int64)) (k := 2) (by decide))).1; have b2b := ((jv_c (x := (2 : Int64)) (k := 2) (by decide))).2; exact ⟨by omega, by omega⟩
    have hx1_9p : iv x1 0 2 := by have := t1; have b0a := (hv1_9p).1; have b0b := (hv1_9p).2; have b1a := (hx1).1; have b1b := (hx1).2; exact ⟨by omega, by omega⟩
    refine lv_aload_n hx hb dX10_back_15 rfl (lv_at hl 0 rfl) ?_
    refine ti_getr hx hb hts inlX10 hown hK hT ha0 rfl rfl rfl 4 (by decide) (hts _ kw_133) (fun _ h9 => h9) rfl dX10_back_16 (fun v16 hv16 hm16 => ?_)
    refine lv_iload_n hx hb dX10_back_19 rfl (lv_at hl 1 rfl) ?_
    refine ti_zaldD hx hb (aT2 hK) hT hv16 rfl hx1_9p (by decide) (fun j => flag_i j) dX10_back_20 (fun v20 dv20 _ => ?_)
    obtain ⟨hv20, hfl⟩ := flag_g dv20
    refine lv_if_ne (tgt := 27) hx hb dX10_back_21 (by decide) (fun c21 => ?_) (fun c21 => ?_)
    · skip
      have f21 := i_ne c21
      have hv20_21l : iv v20 1 1 := iv_nel hv20 (iv_c (x := (0 : Int32)) (k := 0) (by decide)) c21 (by decide)
      have hin1 : (0 ≤ x1.toInt ∧ x1.toInt ≤ 2) := ⟨by have b0a := (hx1_9p).1; have b0b := (hx1_9p).2; have b1a := (hv1_9p).1; have b1b := (hv1_9p).2; have b2a := (hv6_9l).1; have b2b := (hv6_9l).2; have b3a := (hv20_21l).1; have b3b := (hv20_21l).2; omega, by have b0a := (hx1_9p).1; have b0b := (hx1_9p).2; have b1a := (hv1_9p).1; have b1b := (hv1_9p).2; have b2a := (hv6_9l).1; have b2b := (hv6_9l).2; have b3a := (hv20_21l).1; have b3b := (hv20_21l).2; omega⟩
      have hfl1 : ν x1.toNatClampNeg = 178 := hfl (by have b0a := (hx1_9p).1; have b0b := (hx1_9p).2; have b1a := (hv1_9p).1; have b1b := (hv1_9p).2; have b2a := (hv6_9l).1; have b2b := (hv6_9l).2; have b3a := (hv20_21l).1; have b3b := (hv20_21l).2; omega)
      refine lv_iconst (v := 0) hx hb dX10_back_27 (by decide) ?_
      have J29 : ∀ (n : Nat) (j29_L2 : Int32) (H : Heap) (locs : List Loc) (ls : Array Slot), (178 - j29_L2.toInt).toNat < n → iv j29_L2 0 178 → TI D vwCl (tysOf c0) (RTg ν) Y H → va_S (pW Y [10, 30]) s.heap H locs → lv_has ls 3 [(0, .ref a0), (1, .int x1), (2, .int j29_L2)] → W p l e R s m ([.ref a0, .int x1] : List Value).toArray below meth c H locs 0 0 Q (F0 m 29 ls []) := by
        intro n
        induction n with
        | zero => intro j29_L2 H locs ls hms; exact absurd hms (Nat.not_lt_zero _)
        | succ n ih29 =>
          intro j29_L2 H locs ls hms29 hj29_L2 hT hS hl
          refine lv_iload_n hx hb dX10_back_29 rfl (lv_at hl 2 rfl) ?_
          refine lv_sipush (v := 178) hx hb dX10_back_30 (by decide) ?_
          refine lv_icmp_ge (tgt := 60) hx hb dX10_back_33 (by decide) (fun c33 => ?_) (fun c33 => ?_)
          · skip
            have kl178 : (178 : Int32).toInt = 178 := by decide
            have f33 := i_le c33
            have hj29_L2_33r : iv j29_L2 178 178 := iv_ler (iv_c (x := (178 : Int32)) (k := 178) (by decide)) hj29_L2 c33 (by decide)
            refine lv_aload_n hx hb dX10_back_60 rfl (lv_at hl 0 rfl) ?_
            refine lv_aload_n hx hb dX10_back_61 rfl (lv_at hl 0 rfl) ?_
            refine ti_getr hx hb hts inlX10 hown hK hT ha0 rfl rfl rfl 3 (by decide) (hts _ kw_132) (fun _ h9 => h9) rfl dX10_back_62 (fun v62 hv62 hm62 => ?_)
            refine lv_iload_n hx hb dX10_back_65 rfl (lv_at hl 1 rfl) ?_
            refine ti_lald hx hb (aT3 hK) hT hv62 rfl hx1_9p (by decide) (fun _ _ _ => rfl) dX10_back_66 (fun v66 hm66 => ?_)
            refine ti_put (ty := .long) hx hb hts inlX10 tyX10 tyX10_ok nmX10 hown hK hT hS ha0 rfl rfl rfl rfl 16 (by decide) (hts _ kw_382) (fun _ h9 => h9) rfl rfl (by decide +kernel) rfl rfl ⟨v66, rfl⟩ (fun _ _ => trivial) dX10_back_67 (fun H locs hT hS oq67 he67 hk67 => ?_)
            refine lv_iconst (v := 0) hx hb dX10_back_70 (by decide) ?_
            exact ret _ _ _ _ _ dX10_back_71 (⟨hT, iv_w (iv_c (x := (0 : Int32)) (k := 0) (by decide)) (by decide), Or.inr (Or.inl ⟨hin1, hfl1, by decide⟩)⟩) hS
          · skip
            have kl178 : (178 : Int32).toInt = 178 := by decide
            have f33 := i_nle c33
            have hj29_L2_33l : iv j29_L2 0 177 := iv_ltl hj29_L2 (iv_c (x := (178 : Int32)) (k := 178) (by decide)) (Int32.not_le.mp c33) (by decide)
            refine lv_aload_n hx hb dX10_back_36 rfl (lv_at hl 0 rfl) ?_
            refine ti_getr hx hb hts inlX10 hown hK hT ha0 rfl rfl rfl 1 (by decide) (hts _ kw_130) (fun _ h9 => h9) rfl dX10_back_37 (fun v37 hv37 hm37 => ?_)
            refine lv_iload_n hx hb dX10_back_40 rfl (lv_at hl 2 rfl) ?_
            refine lv_aload_n hx hb dX10_back_41 rfl (lv_at hl 0 rfl) ?_
            refine ti_getr hx hb hts inlX10 hown hK hT ha0 rfl rfl rfl 2 (by decide) (hts _ kw_131) (fun _ h9 => h9) rfl dX10_back_42 (fun v42 hv42 hm42 => ?_)
            refine lv_sipush (v := 178) hx hb dX10_back_45 (by decide) ?_
            refine lv_iload_n hx hb dX10_back_48 rfl (lv_at hl 1 rfl) ?_
            refine lv_imul hx hb dX10_back_49 ?_
            refine lv_topi (fun v49 e49 => ?_)
            have hv49 : iv v49 0 356 := by rw [e49]; exact iv_mul (iv_c (x := (178 : Int32)) (k := 178) (by decide)) hx1_9p (by decide)
            have s49 : v49.toInt = (178 : Int32).toInt * x1.toInt := by rw [e49]; exact iv_mulE (iv_c (x := (178 : Int32)) (k := 178) (by decide)) hx1_9p (by decide)
            have s49 : v49.toInt = 178 * x1.toInt := by rw [s49]; simp only [show (178 : Int32).toInt = 178 from by decide]; try omega
            refine lv_iload_n hx hb dX10_back_50 rfl (lv_at hl 2 rfl) ?_
            refine lv_iadd hx hb dX10_back_51 ?_
            refine lv_topi (fun v51 e51 => ?_)
            have hv51 : iv v51 0 533 := by rw [e51]; exact iv_w (iv_add hv49 hj29_L2_33l (by decide)) (by decide)
            have s51 : v51.toInt = v49.toInt + j29_L2.toInt := by rw [e51]; exact iv_addE hv49 hj29_L2_33l (by decide)
            refine ti_ialdD hx hb (aT0 hK) hT hv42 rfl hv51 (by decide) (fun j => img_i j) dX10_back_52 (fun v52 dv52 hm52 => ?_)
            refine ti_iastD hx hb (aT0 hK) hT hS hv37 rfl rfl hj29_L2_33l (by decide) (img_g (k := x1.toNatClampNeg) dv52 (hfl (by have b0a := (hx1_9p).1; have b0b := (hx1_9p).2; have b1a := (hv1_9p).1; have b1b := (hv1_9p).2; have b2a := (hv6_9l).1; have b2b := (hv6_9l).2; have b3a := (hv20_21l).1; have b3b := (hv20_21l).2; have b4a := (hj29_L2_33l).1; have b4b := (hj29_L2_33l).2; have b5a := (hv49).1; have b5b := (hv49).2; have b6a := (hv51).1; have b6b := (hv51).2; have b7a := ((iv_top v52)).1; have b7b := ((iv_top v52)).2; omega)) (by have b0a := (hx1_9p).1; have b0b := (hx1_9p).2; have b1a := (hv1_9p).1; have b1b := (hv1_9p).2; have b2a := (hv6_9l).1; have b2b := (hv6_9l).2; have b3a := (hv20_21l).1; have b3b := (hv20_21l).2; have b4a := (hj29_L2_33l).1; have b4b := (hj29_L2_33l).2; have b5a := (hv49).1; have b5b := (hv49).2; have b6a := (hv51).1; have b6b := (hv51).2; have b7a := ((iv_top v52)).1; have b7b := ((iv_top v52)).2; show v51.toInt.toNat = 178 * x1.toInt.toNat + j29_L2.toInt.toNat; omega) (by have b0a := (hx1_9p).1; have b0b := (hx1_9p).2; have b1a := (hv1_9p).1; have b1b := (hv1_9p).2; have b2a := (hv6_9l).1; have b2b := (hv6_9l).2; have b3a := (hv20_21l).1; have b3b := (hv20_21l).2; have b4a := (hj29_L2_33l).1; have b4b := (hj29_L2_33l).2; have b5a := (hv49).1; have b5b := (hv49).2; have b6a := (hv51).1; have b6b := (hv51).2; have b7a := ((iv_top v52)).1; have b7b := ((iv_top v52)).2; show j29_L2.toInt.toNat < 178; omega)) (fun _ _ => trivial) dX10_back_53 (fun H locs hT hS oq53 he53 hk53 => ?_)
            obtain ⟨v54, e54⟩ : ∃ y : Int32, y = j29_L2 + 1 := ⟨_, rfl⟩
            have hv54 : iv v54 1 178 := by rw [e54]; exact iv_w (iv_add hj29_L2_33l (iv_c (x := (1 : Int32)) (k := 1) (by decide)) (by decide)) (by decide)
            have s54 : v54.toInt = j29_L2.toInt + 1 := by rw [e54, iv_addE hj29_L2_33l (iv_c (x := (1 : Int32)) (k := 1) (by decide)) (by decide)]; rfl
            refine lv_iinc (v := v54) (lv' := [(2, .int v54), (0, .ref a0), (1, .int x1)]) hx hb dX10_back_54 hl (k := 2) rfl (by rw [e54]; rfl) (by decide) rfl (fun ls hl => ?_)
            refine lv_goto (tgt := 29) hx hb dX10_back_57 (by decide) ?_
            exact ih29 v54 _ _ _ (ms_up hms29 (by have := s54; omega) (iv_w (c := 1) (d := 178) hv54 (by decide)).2) (iv_w hv54 (by decide)) hT hS (lv_sub hl [1, 2, 0] rfl)
      refine lv_istore_n (lv' := [(2, .int (0 : Int32)), (0, .ref a0), (1, .int x1)]) hx hb dX10_back_28 rfl hl (by decide) rfl (fun ls hl => ?_)
      exact J29 _ (0 : Int32) _ _ _ (Nat.lt_succ_self _) (iv_w (iv_c (x := (0 : Int32)) (k := 0) (by decide)) (by decide)) hT hS (lv_sub hl [1, 2, 0] rfl)
    · skip
      have f21 := i_eq c21
      have hv20_21l : iv v20 0 0 := iv_eql hv20 (iv_c (x := (0 : Int32)) (k := 0) (by decide)) c21 (by decide)
      have hin1 : (0 ≤ x1.toInt ∧ x1.toInt ≤ 2) := ⟨by have b0a := (hx1_9p).1; have b0b := (hx1_9p).2; have b1a := (hv1_9p).1; have b1b := (hv1_9p).2; have b2a := (hv6_9l).1; have b2b := (hv6_9l).2; have b3a := (hv20_21l).1; have b3b := (hv20_21l).2; omega, by have b0a := (hx1_9p).1; have b0b := (hx1_9p).2; have b1a := (hv1_9p).1; have b1b := (hv1_9p).2; have b2a := (hv6_9l).1; have b2b := (hv6_9l).2; have b3a := (hv20_21l).1; have b3b := (hv20_21l).2; omega⟩
      have hfl0 : ¬ ν x1.toNatClampNeg = 178 := fun q9 => by have z9 := flag_g2 dv20 q9; have b0a := (hx1_9p).1; have b0b := (hx1_9p).2; have b1a := (hv1_9p).1; have b1b := (hv1_9p).2; have b2a := (hv6_9l).1; have b2b := (hv6_9l).2; have b3a := (hv20_21l).1; have b3b := (hv20_21l).2; omega
      refine lv_bipush (v := (-6)) hx hb dX10_back_24 (by decide) ?_
      have klm6 : (-6 : Int32).toInt = (-6) := by decide
      exact ret _ _ _ _ _ dX10_back_26 (⟨hT, iv_w (iv_c (x := (-6 : Int32)) (k := (-6)) (by decide)) (by decide), Or.inr (Or.inr ⟨hin1, hfl0, by decide⟩)⟩) hS
  · skip
    have kl0 : (0 : Int32).toInt = 0 := by decide
    have f9 := i_eq c9
    have hv6_9l : iv v6 0 0 := iv_eql hv6 (iv_c (x := (0 : Int32)) (k := 0) (by decide)) c9 (by decide)
    refine lv_bipush (v := (-2)) hx hb dX10_back_12 (by decide) ?_
    have klm2 : (-2 : Int32).toInt = (-2) := by decide
    exact ret _ _ _ _ _ dX10_back_14 (⟨hT, iv_w (iv_c (x := (-2 : Int32)) (k := (-2)) (by decide)) (by decide), Or.inl ⟨by have b0a := (hx1).1; have b0b := (hx1).2; have b1a := (hv1).1; have b1b := (hv1).2; have b2a := (hv6_9l).1; have b2b := (hv6_9l).2; omega, by decide⟩⟩) hS
