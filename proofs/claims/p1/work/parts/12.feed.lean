set_option maxHeartbeats 4000000 in
set_option maxRecDepth 100000 in
theorem n_X6_add_0 (l : Launch) {D : va_G} {c0 : Nat → ClassId} {H : Heap} {h0 h1 : Nat} {z2 z3 z4 z5 z6 z7 z8 z9 z10 z11 : Value} {g0 : Nat → Int32} {x1 : Int32} (hP : va_P D vwCl [(h0, .inr (6, [.ref h1, .int 0, z2, z3, z4, z5, z6, z7, z8, z9, z10, z11])), (h1, .inl (c0 1, 1600, .inl g0))] H) (hD0 : va_D (fun _ => True) [(h0, .inr (6, [.ref h1, .int 0, z2, z3, z4, z5, z6, z7, z8, z9, z10, z11])), (h1, .inl (c0 1, 1600, .inl g0))]) : Met l yX6_add (wz yX6_add cX6_add 3 none) { frames := 1, cells := 0, slots := 0, locals := 12 } (NP D (tysOf c0) H [.ref h0, .int x1]) (NQ (va_A [(h0, .inr (6, [.ref h1, .int 0, z2, z3, z4, z5, z6, z7, z8, z9, z10, z11])), (h1, .inl (c0 1, 1600, .inl g0))] H.size) (fun H' => ∃ g12 : Nat → Int32, va_P D vwCl [(h0, .inr (6, [.ref h1, .int 4, z2, z3, z4, z5, z6, z7, z8, z9, z10, z11])), (h1, .inl (c0 1, 1600, .inl g12))] H' ∧ va_D (va_A [(h0, .inr (6, [.ref h1, .int 0, z2, z3, z4, z5, z6, z7, z8, z9, z10, z11])), (h1, .inl (c0 1, 1600, .inl g0))] H.size) [(h0, .inr (6, [.ref h1, .int 4, z2, z3, z4, z5, z6, z7, z8, z9, z10, z11])), (h1, .inl (c0 1, 1600, .inl g12))])) 0 0 (va_A [(h0, .inr (6, [.ref h1, .int 0, z2, z3, z4, z5, z6, z7, z8, z9, z10, z11])), (h1, .inl (c0 1, 1600, .inl g0))] H.size) := by
  refine Met.ofW (cc := cX6_add) (maxL := 3) (ret := none) (by decide) rfl ?_
  intro p e s m args below meth c s₁ B hml hv
  obtain ⟨rfl, rfl, hK, hN⟩ := hv
  have hx := B.exec
  have hb := B.bytes
  have hr := B.returns
  have hts : ∀ w ∈ wq, w.before _ s = true := fun w h => atoms_spec (ws := wz yX6_add cX6_add 3 none) B.pre w (List.mem_cons_of_mem _ h)
  have hown : s.vm.findClass RX6 = some m.cls := findClass_of_methodNamed B.named
  have hlocks := B.notSynchronized
  have hin : meth.name = "add" := (name_of_methodNamed B.named B.method).1
  obtain ⟨R, hR⟩ : ∃ R : Room, R = ({ frames := 1, cells := 0, slots := 0, locals := 12 } : Room) := ⟨_, rfl⟩
  rw [show (headSpec (wz yX6_add cX6_add 3 none) { frames := 1, cells := 0, slots := 0, locals := 12 }).room = R from hR.symm]
  have hD := hD0.self (sz := s.heap.size)
  generalize hAe : va_A [(h0, .inr (6, [.ref h1, .int 0, z2, z3, z4, z5, z6, z7, z8, z9, z10, z11])), (h1, .inl (c0 1, 1600, .inl g0))] s.heap.size = A at hD ⊢
  have hA : ∀ q : Nat, s.heap.size ≤ q → A q := fun q h => by rw [← hAe]; exact Or.inr h
  have hl := lv_entry [.ref h0, .int x1] (n := 3) (Nat.le_of_ble_eq_true rfl)
  rw [lg_entry_eq]
  generalize (lg_sl [.ref h0, .int x1] ++ List.replicate (3 - (lg_sl [.ref h0, .int x1]).length) Slot.unset).toArray = ls at hl ⊢
  have hl : lv_has ls 3 [(0, .ref h0), (1, .int x1)] := hl
  have hS : va_S A s.heap s.heap [] := va_S.rf
  suffices key : ∀ (H : Heap) (locs : List Loc), va_P D vwCl [(h0, .inr (6, [.ref h1, .int 0, z2, z3, z4, z5, z6, z7, z8, z9, z10, z11])), (h1, .inl (c0 1, 1600, .inl g0))] H → va_S A s.heap H locs → W p l e R s m ([.ref h0, .int x1] : List Value).toArray below meth c H locs 0 0 (MQ below (NQ A (fun H' => ∃ g12 : Nat → Int32, va_P D vwCl [(h0, .inr (6, [.ref h1, .int 4, z2, z3, z4, z5, z6, z7, z8, z9, z10, z11])), (h1, .inl (c0 1, 1600, .inl g12))] H' ∧ va_D A [(h0, .inr (6, [.ref h1, .int 4, z2, z3, z4, z5, z6, z7, z8, z9, z10, z11])), (h1, .inl (c0 1, 1600, .inl g12))])) ([.ref h0, .int x1] : List Value).toArray s 0 0 A) (F0 m 0 ls []) from key s.heap [] hP hS
  clear hP hS
  intro H locs hP hS
  refine lv_bipush (v := 24) hx hb dX6_add_0 (by decide) ?_
  refine lv_istore_n (lv' := [(2, .int 24), (0, .ref h0), (1, .int x1)]) hx hb dX6_add_2 rfl hl (by decide) rfl (fun ls hl => ?_)
  refine lv_iload_n hx hb dX6_add_3 rfl (lv_at hl 0 rfl) ?_
  refine lv_if_lt (tgt := 46) hx hb dX6_add_4 (by decide) (fun h => absurd h (by decide)) (fun _ => ?_)
  refine lv_aload_n hx hb dX6_add_7 rfl (lv_at hl 1 rfl) ?_
  refine va_get (ci := 6) (v := .int 0) (C := RX6) (T := TX6) (N := 12) hx hb hts inlX6 hown hK hP 0 rfl rfl 1 (by decide) (hts _ kw_167) (fun _ h9 => h9) rfl dX6_add_8 ?_
  refine lv_sipush (v := 1600) hx hb dX6_add_11 (by decide) ?_
  refine lv_icmp_ge (tgt := 46) hx hb dX6_add_14 (by decide) (fun h => absurd h (by decide)) (fun _ => ?_)
  refine lv_aload_n hx hb dX6_add_17 rfl (lv_at hl 1 rfl) ?_
  refine va_get (ci := 6) (v := .ref h1) (C := RX6) (T := TX6) (N := 12) hx hb hts inlX6 hown hK hP 0 rfl rfl 0 (by decide) (hts _ kw_48) (fun _ h9 => h9) rfl dX6_add_18 ?_
  refine lv_aload_n hx hb dX6_add_21 rfl (lv_at hl 1 rfl) ?_
  refine va_get (ci := 6) (v := .int 0) (C := RX6) (T := TX6) (N := 12) hx hb hts inlX6 hown hK hP 0 rfl rfl 1 (by decide) (hts _ kw_167) (fun _ h9 => h9) rfl dX6_add_22 ?_
  refine lv_iload_n hx hb dX6_add_25 rfl (lv_at hl 2 rfl) ?_
  refine lv_iload_n hx hb dX6_add_26 rfl (lv_at hl 0 rfl) ?_
  refine lv_ishr hx hb dX6_add_27 ?_
  refine lv_topi (fun y1 _ => ?_)
  refine lv_i2b hx hb dX6_add_28 rfl ?_
  refine lv_topi (fun y2 _ => ?_)
  refine va_bast (i := 0) (x := y2) hx hb hK hP hD hS 1 1 rfl rfl (iv_in (iv_c (x := (0 : Int32)) (k := 0) (by decide)) (by decide)) dX6_add_29 (fun H locs hP hD hS => ?_)
  obtain ⟨g3, hg3⟩ : ∃ gg : Nat → Int32, gg = upd g0 (0 : Int32).toNatClampNeg (vp_nar .byte y2) := ⟨_, rfl⟩
  rw [← hg3] at hP hD
  have hP : va_P D vwCl [(h0, .inr (6, [.ref h1, .int 0, z2, z3, z4, z5, z6, z7, z8, z9, z10, z11])), (h1, .inl (c0 1, 1600, .inl g3))] H := hP
  have hD : va_D A [(h0, .inr (6, [.ref h1, .int 0, z2, z3, z4, z5, z6, z7, z8, z9, z10, z11])), (h1, .inl (c0 1, 1600, .inl g3))] := hD
  refine lv_aload_n hx hb dX6_add_30 rfl (lv_at hl 1 rfl) ?_
  refine lv_dup hx hb dX6_add_31 rfl ?_
  refine va_get (ci := 6) (v := .int 0) (C := RX6) (T := TX6) (N := 12) hx hb hts inlX6 hown hK hP 0 rfl rfl 1 (by decide) (hts _ kw_167) (fun _ h9 => h9) rfl dX6_add_32 ?_
  refine lv_iconst (v := 1) hx hb dX6_add_35 (by decide) ?_
  refine lv_iadd hx hb dX6_add_36 ?_
  refine lv_topi (fun w9 e9 => ?_)
  obtain rfl : w9 = 1 := e9.trans (by decide)
  refine va_put (D := D) (ci := 6) (v := .int 1) (ty := .int) (C := RX6) (T := TX6) (N := 12) hx hb hts inlX6 tyX6 tyX6_ok nmX6 hown hK hP hD hS 0 rfl rfl 1 (by decide) (hts _ kw_167) (fun _ h9 => h9) rfl (by decide +kernel) rfl rfl (Nat.le_of_ble_eq_true rfl) dX6_add_37 (fun H locs hP hD hS => ?_)
  have hP : va_P D vwCl [(h0, .inr (6, [.ref h1, .int 1, z2, z3, z4, z5, z6, z7, z8, z9, z10, z11])), (h1, .inl (c0 1, 1600, .inl g3))] H := hP
  have hD : va_D A [(h0, .inr (6, [.ref h1, .int 1, z2, z3, z4, z5, z6, z7, z8, z9, z10, z11])), (h1, .inl (c0 1, 1600, .inl g3))] := hD
  refine lv_iinc (v := 16) (lv' := [(2, .int 16), (0, .ref h0), (1, .int x1)]) hx hb dX6_add_40 hl (k := 0) rfl (by decide) (by decide) rfl (fun ls hl => ?_)
  refine lv_goto (tgt := 3) hx hb dX6_add_43 (by decide) ?_
  refine lv_iload_n hx hb dX6_add_3 rfl (lv_at hl 0 rfl) ?_
  refine lv_if_lt (tgt := 46) hx hb dX6_add_4 (by decide) (fun h => absurd h (by decide)) (fun _ => ?_)
  refine lv_aload_n hx hb dX6_add_7 rfl (lv_at hl 1 rfl) ?_
  refine va_get (ci := 6) (v := .int 1) (C := RX6) (T := TX6) (N := 12) hx hb hts inlX6 hown hK hP 0 rfl rfl 1 (by decide) (hts _ kw_167) (fun _ h9 => h9) rfl dX6_add_8 ?_
  refine lv_sipush (v := 1600) hx hb dX6_add_11 (by decide) ?_
  refine lv_icmp_ge (tgt := 46) hx hb dX6_add_14 (by decide) (fun h => absurd h (by decide)) (fun _ => ?_)
  refine lv_aload_n hx hb dX6_add_17 rfl (lv_at hl 1 rfl) ?_
  refine va_get (ci := 6) (v := .ref h1) (C := RX6) (T := TX6) (N := 12) hx hb hts inlX6 hown hK hP 0 rfl rfl 0 (by decide) (hts _ kw_48) (fun _ h9 => h9) rfl dX6_add_18 ?_
  refine lv_aload_n hx hb dX6_add_21 rfl (lv_at hl 1 rfl) ?_
  refine va_get (ci := 6) (v := .int 1) (C := RX6) (T := TX6) (N := 12) hx hb hts inlX6 hown hK hP 0 rfl rfl 1 (by decide) (hts _ kw_167) (fun _ h9 => h9) rfl dX6_add_22 ?_
  refine lv_iload_n hx hb dX6_add_25 rfl (lv_at hl 2 rfl) ?_
  refine lv_iload_n hx hb dX6_add_26 rfl (lv_at hl 0 rfl) ?_
  refine lv_ishr hx hb dX6_add_27 ?_
  refine lv_topi (fun y4 _ => ?_)
  refine lv_i2b hx hb dX6_add_28 rfl ?_
  refine lv_topi (fun y5 _ => ?_)
  refine va_bast (i := 1) (x := y5) hx hb hK hP hD hS 1 1 rfl rfl (iv_in (iv_c (x := (1 : Int32)) (k := 1) (by decide)) (by decide)) dX6_add_29 (fun H locs hP hD hS => ?_)
  obtain ⟨g6, hg6⟩ : ∃ gg : Nat → Int32, gg = upd g3 (1 : Int32).toNatClampNeg (vp_nar .byte y5) := ⟨_, rfl⟩
  rw [← hg6] at hP hD
  have hP : va_P D vwCl [(h0, .inr (6, [.ref h1, .int 1, z2, z3, z4, z5, z6, z7, z8, z9, z10, z11])), (h1, .inl (c0 1, 1600, .inl g6))] H := hP
  have hD : va_D A [(h0, .inr (6, [.ref h1, .int 1, z2, z3, z4, z5, z6, z7, z8, z9, z10, z11])), (h1, .inl (c0 1, 1600, .inl g6))] := hD
  refine lv_aload_n hx hb dX6_add_30 rfl (lv_at hl 1 rfl) ?_
  refine lv_dup hx hb dX6_add_31 rfl ?_
  refine va_get (ci := 6) (v := .int 1) (C := RX6) (T := TX6) (N := 12) hx hb hts inlX6 hown hK hP 0 rfl rfl 1 (by decide) (hts _ kw_167) (fun _ h9 => h9) rfl dX6_add_32 ?_
  refine lv_iconst (v := 1) hx hb dX6_add_35 (by decide) ?_
  refine lv_iadd hx hb dX6_add_36 ?_
  refine lv_topi (fun w9 e9 => ?_)
  obtain rfl : w9 = 2 := e9.trans (by decide)
  refine va_put (D := D) (ci := 6) (v := .int 2) (ty := .int) (C := RX6) (T := TX6) (N := 12) hx hb hts inlX6 tyX6 tyX6_ok nmX6 hown hK hP hD hS 0 rfl rfl 1 (by decide) (hts _ kw_167) (fun _ h9 => h9) rfl (by decide +kernel) rfl rfl (Nat.le_of_ble_eq_true rfl) dX6_add_37 (fun H locs hP hD hS => ?_)
  have hP : va_P D vwCl [(h0, .inr (6, [.ref h1, .int 2, z2, z3, z4, z5, z6, z7, z8, z9, z10, z11])), (h1, .inl (c0 1, 1600, .inl g6))] H := hP
  have hD : va_D A [(h0, .inr (6, [.ref h1, .int 2, z2, z3, z4, z5, z6, z7, z8, z9, z10, z11])), (h1, .inl (c0 1, 1600, .inl g6))] := hD
  refine lv_iinc (v := 8) (lv' := [(2, .int 8), (0, .ref h0), (1, .int x1)]) hx hb dX6_add_40 hl (k := 0) rfl (by decide) (by decide) rfl (fun ls hl => ?_)
  refine lv_goto (tgt := 3) hx hb dX6_add_43 (by decide) ?_
  refine lv_iload_n hx hb dX6_add_3 rfl (lv_at hl 0 rfl) ?_
  refine lv_if_lt (tgt := 46) hx hb dX6_add_4 (by decide) (fun h => absurd h (by decide)) (fun _ => ?_)
  refine lv_aload_n hx hb dX6_add_7 rfl (lv_at hl 1 rfl) ?_
  refine va_get (ci := 6) (v := .int 2) (C := RX6) (T := TX6) (N := 12) hx hb hts inlX6 hown hK hP 0 rfl rfl 1 (by decide) (hts _ kw_167) (fun _ h9 => h9) rfl dX6_add_8 ?_
  refine lv_sipush (v := 1600) hx hb dX6_add_11 (by decide) ?_
  refine lv_icmp_ge (tgt := 46) hx hb dX6_add_14 (by decide) (fun h => absurd h (by decide)) (fun _ => ?_)
  refine lv_aload_n hx hb dX6_add_17 rfl (lv_at hl 1 rfl) ?_
  refine va_get (ci := 6) (v := .ref h1) (C := RX6) (T := TX6) (N := 12) hx hb hts inlX6 hown hK hP 0 rfl rfl 0 (by decide) (hts _ kw_48) (fun _ h9 => h9) rfl dX6_add_18 ?_
  refine lv_aload_n hx hb dX6_add_21 rfl (lv_at hl 1 rfl) ?_
  refine va_get (ci := 6) (v := .int 2) (C := RX6) (T := TX6) (N := 12) hx hb hts inlX6 hown hK hP 0 rfl rfl 1 (by decide) (hts _ kw_167) (fun _ h9 => h9) rfl dX6_add_22 ?_
  refine lv_iload_n hx hb dX6_add_25 rfl (lv_at hl 2 rfl) ?_
  refine lv_iload_n hx hb dX6_add_26 rfl (lv_at hl 0 rfl) ?_
  refine lv_ishr hx hb dX6_add_27 ?_
  refine lv_topi (fun y7 _ => ?_)
  refine lv_i2b hx hb dX6_add_28 rfl ?_
  refine lv_topi (fun y8 _ => ?_)
  refine va_bast (i := 2) (x := y8) hx hb hK hP hD hS 1 1 rfl rfl (iv_in (iv_c (x := (2 : Int32)) (k := 2) (by decide)) (by decide)) dX6_add_29 (fun H locs hP hD hS => ?_)
  obtain ⟨g9, hg9⟩ : ∃ gg : Nat → Int32, gg = upd g6 (2 : Int32).toNatClampNeg (vp_nar .byte y8) := ⟨_, rfl⟩
  rw [← hg9] at hP hD
  have hP : va_P D vwCl [(h0, .inr (6, [.ref h1, .int 2, z2, z3, z4, z5, z6, z7, z8, z9, z10, z11])), (h1, .inl (c0 1, 1600, .inl g9))] H := hP
  have hD : va_D A [(h0, .inr (6, [.ref h1, .int 2, z2, z3, z4, z5, z6, z7, z8, z9, z10, z11])), (h1, .inl (c0 1, 1600, .inl g9))] := hD
  refine lv_aload_n hx hb dX6_add_30 rfl (lv_at hl 1 rfl) ?_
  refine lv_dup hx hb dX6_add_31 rfl ?_
  refine va_get (ci := 6) (v := .int 2) (C := RX6) (T := TX6) (N := 12) hx hb hts inlX6 hown hK hP 0 rfl rfl 1 (by decide) (hts _ kw_167) (fun _ h9 => h9) rfl dX6_add_32 ?_
  refine lv_iconst (v := 1) hx hb dX6_add_35 (by decide) ?_
  refine lv_iadd hx hb dX6_add_36 ?_
  refine lv_topi (fun w9 e9 => ?_)
  obtain rfl : w9 = 3 := e9.trans (by decide)
  refine va_put (D := D) (ci := 6) (v := .int 3) (ty := .int) (C := RX6) (T := TX6) (N := 12) hx hb hts inlX6 tyX6 tyX6_ok nmX6 hown hK hP hD hS 0 rfl rfl 1 (by decide) (hts _ kw_167) (fun _ h9 => h9) rfl (by decide +kernel) rfl rfl (Nat.le_of_ble_eq_true rfl) dX6_add_37 (fun H locs hP hD hS => ?_)
  have hP : va_P D vwCl [(h0, .inr (6, [.ref h1, .int 3, z2, z3, z4, z5, z6, z7, z8, z9, z10, z11])), (h1, .inl (c0 1, 1600, .inl g9))] H := hP
  have hD : va_D A [(h0, .inr (6, [.ref h1, .int 3, z2, z3, z4, z5, z6, z7, z8, z9, z10, z11])), (h1, .inl (c0 1, 1600, .inl g9))] := hD
  refine lv_iinc (v := 0) (lv' := [(2, .int 0), (0, .ref h0), (1, .int x1)]) hx hb dX6_add_40 hl (k := 0) rfl (by decide) (by decide) rfl (fun ls hl => ?_)
  refine lv_goto (tgt := 3) hx hb dX6_add_43 (by decide) ?_
  refine lv_iload_n hx hb dX6_add_3 rfl (lv_at hl 0 rfl) ?_
  refine lv_if_lt (tgt := 46) hx hb dX6_add_4 (by decide) (fun h => absurd h (by decide)) (fun _ => ?_)
  refine lv_aload_n hx hb dX6_add_7 rfl (lv_at hl 1 rfl) ?_
  refine va_get (ci := 6) (v := .int 3) (C := RX6) (T := TX6) (N := 12) hx hb hts inlX6 hown hK hP 0 rfl rfl 1 (by decide) (hts _ kw_167) (fun _ h9 => h9) rfl dX6_add_8 ?_
  refine lv_sipush (v := 1600) hx hb dX6_add_11 (by decide) ?_
  refine lv_icmp_ge (tgt := 46) hx hb dX6_add_14 (by decide) (fun h => absurd h (by decide)) (fun _ => ?_)
  refine lv_aload_n hx hb dX6_add_17 rfl (lv_at hl 1 rfl) ?_
  refine va_get (ci := 6) (v := .ref h1) (C := RX6) (T := TX6) (N := 12) hx hb hts inlX6 hown hK hP 0 rfl rfl 0 (by decide) (hts _ kw_48) (fun _ h9 => h9) rfl dX6_add_18 ?_
  refine lv_aload_n hx hb dX6_add_21 rfl (lv_at hl 1 rfl) ?_
  refine va_get (ci := 6) (v := .int 3) (C := RX6) (T := TX6) (N := 12) hx hb hts inlX6 hown hK hP 0 rfl rfl 1 (by decide) (hts _ kw_167) (fun _ h9 => h9) rfl dX6_add_22 ?_
  refine lv_iload_n hx hb dX6_add_25 rfl (lv_at hl 2 rfl) ?_
  refine lv_iload_n hx hb dX6_add_26 rfl (lv_at hl 0 rfl) ?_
  refine lv_ishr hx hb dX6_add_27 ?_
  refine lv_topi (fun y10 _ => ?_)
  refine lv_i2b hx hb dX6_add_28 rfl ?_
  refine lv_topi (fun y11 _ => ?_)
  refine va_bast (i := 3) (x := y11) hx hb hK hP hD hS 1 1 rfl rfl (iv_in (iv_c (x := (3 : Int32)) (k := 3) (by decide)) (by decide)) dX6_add_29 (fun H locs hP hD hS => ?_)
  obtain ⟨g12, hg12⟩ : ∃ gg : Nat → Int32, gg = upd g9 (3 : Int32).toNatClampNeg (vp_nar .byte y11) := ⟨_, rfl⟩
  rw [← hg12] at hP hD
  have hP : va_P D vwCl [(h0, .inr (6, [.ref h1, .int 3, z2, z3, z4, z5, z6, z7, z8, z9, z10, z11])), (h1, .inl (c0 1, 1600, .inl g12))] H := hP
  have hD : va_D A [(h0, .inr (6, [.ref h1, .int 3, z2, z3, z4, z5, z6, z7, z8, z9, z10, z11])), (h1, .inl (c0 1, 1600, .inl g12))] := hD
  refine lv_aload_n hx hb dX6_add_30 rfl (lv_at hl 1 rfl) ?_
  refine lv_dup hx hb dX6_add_31 rfl ?_
  refine va_get (ci := 6) (v := .int 3) (C := RX6) (T := TX6) (N := 12) hx hb hts inlX6 hown hK hP 0 rfl rfl 1 (by decide) (hts _ kw_167) (fun _ h9 => h9) rfl dX6_add_32 ?_
  refine lv_iconst (v := 1) hx hb dX6_add_35 (by decide) ?_
  refine lv_iadd hx hb dX6_add_36 ?_
  refine lv_topi (fun w9 e9 => ?_)
  obtain rfl : w9 = 4 := e9.trans (by decide)
  refine va_put (D := D) (ci := 6) (v := .int 4) (ty := .int) (C := RX6) (T := TX6) (N := 12) hx hb hts inlX6 tyX6 tyX6_ok nmX6 hown hK hP hD hS 0 rfl rfl 1 (by decide) (hts _ kw_167) (fun _ h9 => h9) rfl (by decide +kernel) rfl rfl (Nat.le_of_ble_eq_true rfl) dX6_add_37 (fun H locs hP hD hS => ?_)
  have hP : va_P D vwCl [(h0, .inr (6, [.ref h1, .int 4, z2, z3, z4, z5, z6, z7, z8, z9, z10, z11])), (h1, .inl (c0 1, 1600, .inl g12))] H := hP
  have hD : va_D A [(h0, .inr (6, [.ref h1, .int 4, z2, z3, z4, z5, z6, z7, z8, z9, z10, z11])), (h1, .inl (c0 1, 1600, .inl g12))] := hD
  refine lv_iinc (v := (-8)) (lv' := [(2, .int (-8)), (0, .ref h0), (1, .int x1)]) hx hb dX6_add_40 hl (k := 0) rfl (by decide) (by decide) rfl (fun ls hl => ?_)
  refine lv_goto (tgt := 3) hx hb dX6_add_43 (by decide) ?_
  refine lv_iload_n hx hb dX6_add_3 rfl (lv_at hl 0 rfl) ?_
  refine lv_if_lt (tgt := 46) hx hb dX6_add_4 (by decide) (fun _ => ?_) (fun h => absurd (by decide) h)
  exact W.vret hx hb hr (fun t ht hW => ⟨⟨rfl, g12, by rw [ht]; exact hP, hD⟩, hS.F ht⟩) hS.2.2 dX6_add_46 hlocks
set_option maxHeartbeats 4000000 in
set_option maxRecDepth 100000 in
theorem n_X6_add_4 (l : Launch) {D : va_G} {c0 : Nat → ClassId} {H : Heap} {h0 h1 : Nat} {z2 z3 z4 z5 z6 z7 z8 z9 z10 z11 : Value} {g0 : Nat → Int32} {x1 : Int32} (hP : va_P D vwCl [(h0, .inr (6, [.ref h1, .int 4, z2, z3, z4, z5, z6, z7, z8, z9, z10, z11])), (h1, .inl (c0 1, 1600, .inl g0))] H) (hD0 : va_D (fun _ => True) [(h0, .inr (6, [.ref h1, .int 4, z2, z3, z4, z5, z6, z7, z8, z9, z10, z11])), (h1, .inl (c0 1, 1600, .inl g0))]) : Met l yX6_add (wz yX6_add cX6_add 3 none) { frames := 1, cells := 0, slots := 0, locals := 12 } (NP D (tysOf c0) H [.ref h0, .int x1]) (NQ (va_A [(h0, .inr (6, [.ref h1, .int 4, z2, z3, z4, z5, z6, z7, z8, z9, z10, z11])), (h1, .inl (c0 1, 1600, .inl g0))] H.size) (fun H' => ∃ g12 : Nat → Int32, va_P D vwCl [(h0, .inr (6, [.ref h1, .int 8, z2, z3, z4, z5, z6, z7, z8, z9, z10, z11])), (h1, .inl (c0 1, 1600, .inl g12))] H' ∧ va_D (va_A [(h0, .inr (6, [.ref h1, .int 4, z2, z3, z4, z5, z6, z7, z8, z9, z10, z11])), (h1, .inl (c0 1, 1600, .inl g0))] H.size) [(h0, .inr (6, [.ref h1, .int 8, z2, z3, z4, z5, z6, z7, z8, z9, z10, z11])), (h1, .inl (c0 1, 1600, .inl g12))])) 0 0 (va_A [(h0, .inr (6, [.ref h1, .int 4, z2, z3, z4, z5, z6, z7, z8, z9, z10, z11])), (h1, .inl (c0 1, 1600, .inl g0))] H.size) := by
  refine Met.ofW (cc := cX6_add) (maxL := 3) (ret := none) (by decide) rfl ?_
  intro p e s m args below meth c s₁ B hml hv
  obtain ⟨rfl, rfl, hK, hN⟩ := hv
  have hx := B.exec
  have hb := B.bytes
  have hr := B.returns
  have hts : ∀ w ∈ wq, w.before _ s = true := fun w h => atoms_spec (ws := wz yX6_add cX6_add 3 none) B.pre w (List.mem_cons_of_mem _ h)
  have hown : s.vm.findClass RX6 = some m.cls := findClass_of_methodNamed B.named
  have hlocks := B.notSynchronized
  have hin : meth.name = "add" := (name_of_methodNamed B.named B.method).1
  obtain ⟨R, hR⟩ : ∃ R : Room, R = ({ frames := 1, cells := 0, slots := 0, locals := 12 } : Room) := ⟨_, rfl⟩
  rw [show (headSpec (wz yX6_add cX6_add 3 none) { frames := 1, cells := 0, slots := 0, locals := 12 }).room = R from hR.symm]
  have hD := hD0.self (sz := s.heap.size)
  generalize hAe : va_A [(h0, .inr (6, [.ref h1, .int 4, z2, z3, z4, z5, z6, z7, z8, z9, z10, z11])), (h1, .inl (c0 1, 1600, .inl g0))] s.heap.size = A at hD ⊢
  have hA : ∀ q : Nat, s.heap.size ≤ q → A q := fun q h => by rw [← hAe]; exact Or.inr h
  have hl := lv_entry [.ref h0, .int x1] (n := 3) (Nat.le_of_ble_eq_true rfl)
  rw [lg_entry_eq]
  generalize (lg_sl [.ref h0, .int x1] ++ List.replicate (3 - (lg_sl [.ref h0, .int x1]).length) Slot.unset).toArray = ls at hl ⊢
  have hl : lv_has ls 3 [(0, .ref h0), (1, .int x1)] := hl
  have hS : va_S A s.heap s.heap [] := va_S.rf
  suffices key : ∀ (H : Heap) (locs : List Loc), va_P D vwCl [(h0, .inr (6, [.ref h1, .int 4, z2, z3, z4, z5, z6, z7, z8, z9, z10, z11])), (h1, .inl (c0 1, 1600, .inl g0))] H → va_S A s.heap H locs → W p l e R s m ([.ref h0, .int x1] : List Value).toArray below meth c H locs 0 0 (MQ below (NQ A (fun H' => ∃ g12 : Nat → Int32, va_P D vwCl [(h0, .inr (6, [.ref h1, .int 8, z2, z3, z4, z5, z6, z7, z8, z9, z10, z11])), (h1, .inl (c0 1, 1600, .inl g12))] H' ∧ va_D A [(h0, .inr (6, [.ref h1, .int 8, z2, z3, z4, z5, z6, z7, z8, z9, z10, z11])), (h1, .inl (c0 1, 1600, .inl g12))])) ([.ref h0, .int x1] : List Value).toArray s 0 0 A) (F0 m 0 ls []) from key s.heap [] hP hS
  clear hP hS
  intro H locs hP hS
  refine lv_bipush (v := 24) hx hb dX6_add_0 (by decide) ?_
  refine lv_istore_n (lv' := [(2, .int 24), (0, .ref h0), (1, .int x1)]) hx hb dX6_add_2 rfl hl (by decide) rfl (fun ls hl => ?_)
  refine lv_iload_n hx hb dX6_add_3 rfl (lv_at hl 0 rfl) ?_
  refine lv_if_lt (tgt := 46) hx hb dX6_add_4 (by decide) (fun h => absurd h (by decide)) (fun _ => ?_)
  refine lv_aload_n hx hb dX6_add_7 rfl (lv_at hl 1 rfl) ?_
  refine va_get (ci := 6) (v := .int 4) (C := RX6) (T := TX6) (N := 12) hx hb hts inlX6 hown hK hP 0 rfl rfl 1 (by decide) (hts _ kw_167) (fun _ h9 => h9) rfl dX6_add_8 ?_
  refine lv_sipush (v := 1600) hx hb dX6_add_11 (by decide) ?_
  refine lv_icmp_ge (tgt := 46) hx hb dX6_add_14 (by decide) (fun h => absurd h (by decide)) (fun _ => ?_)
  refine lv_aload_n hx hb dX6_add_17 rfl (lv_at hl 1 rfl) ?_
  refine va_get (ci := 6) (v := .ref h1) (C := RX6) (T := TX6) (N := 12) hx hb hts inlX6 hown hK hP 0 rfl rfl 0 (by decide) (hts _ kw_48) (fun _ h9 => h9) rfl dX6_add_18 ?_
  refine lv_aload_n hx hb dX6_add_21 rfl (lv_at hl 1 rfl) ?_
  refine va_get (ci := 6) (v := .int 4) (C := RX6) (T := TX6) (N := 12) hx hb hts inlX6 hown hK hP 0 rfl rfl 1 (by decide) (hts _ kw_167) (fun _ h9 => h9) rfl dX6_add_22 ?_
  refine lv_iload_n hx hb dX6_add_25 rfl (lv_at hl 2 rfl) ?_
  refine lv_iload_n hx hb dX6_add_26 rfl (lv_at hl 0 rfl) ?_
  refine lv_ishr hx hb dX6_add_27 ?_
  refine lv_topi (fun y1 _ => ?_)
  refine lv_i2b hx hb dX6_add_28 rfl ?_
  refine lv_topi (fun y2 _ => ?_)
  refine va_bast (i := 4) (x := y2) hx hb hK hP hD hS 1 1 rfl rfl (iv_in (iv_c (x := (4 : Int32)) (k := 4) (by decide)) (by decide)) dX6_add_29 (fun H locs hP hD hS => ?_)
  obtain ⟨g3, hg3⟩ : ∃ gg : Nat → Int32, gg = upd g0 (4 : Int32).toNatClampNeg (vp_nar .byte y2) := ⟨_, rfl⟩
  rw [← hg3] at hP hD
  have hP : va_P D vwCl [(h0, .inr (6, [.ref h1, .int 4, z2, z3, z4, z5, z6, z7, z8, z9, z10, z11])), (h1, .inl (c0 1, 1600, .inl g3))] H := hP
  have hD : va_D A [(h0, .inr (6, [.ref h1, .int 4, z2, z3, z4, z5, z6, z7, z8, z9, z10, z11])), (h1, .inl (c0 1, 1600, .inl g3))] := hD
  refine lv_aload_n hx hb dX6_add_30 rfl (lv_at hl 1 rfl) ?_
  refine lv_dup hx hb dX6_add_31 rfl ?_
  refine va_get (ci := 6) (v := .int 4) (C := RX6) (T := TX6) (N := 12) hx hb hts inlX6 hown hK hP 0 rfl rfl 1 (by decide) (hts _ kw_167) (fun _ h9 => h9) rfl dX6_add_32 ?_
  refine lv_iconst (v := 1) hx hb dX6_add_35 (by decide) ?_
  refine lv_iadd hx hb dX6_add_36 ?_
  refine lv_topi (fun w9 e9 => ?_)
  obtain rfl : w9 = 5 := e9.trans (by decide)
  refine va_put (D := D) (ci := 6) (v := .int 5) (ty := .int) (C := RX6) (T := TX6) (N := 12) hx hb hts inlX6 tyX6 tyX6_ok nmX6 hown hK hP hD hS 0 rfl rfl 1 (by decide) (hts _ kw_167) (fun _ h9 => h9) rfl (by decide +kernel) rfl rfl (Nat.le_of_ble_eq_true rfl) dX6_add_37 (fun H locs hP hD hS => ?_)
  have hP : va_P D vwCl [(h0, .inr (6, [.ref h1, .int 5, z2, z3, z4, z5, z6, z7, z8, z9, z10, z11])), (h1, .inl (c0 1, 1600, .inl g3))] H := hP
  have hD : va_D A [(h0, .inr (6, [.ref h1, .int 5, z2, z3, z4, z5, z6, z7, z8, z9, z10, z11])), (h1, .inl (c0 1, 1600, .inl g3))] := hD
  refine lv_iinc (v := 16) (lv' := [(2, .int 16), (0, .ref h0), (1, .int x1)]) hx hb dX6_add_40 hl (k := 0) rfl (by decide) (by decide) rfl (fun ls hl => ?_)
  refine lv_goto (tgt := 3) hx hb dX6_add_43 (by decide) ?_
  refine lv_iload_n hx hb dX6_add_3 rfl (lv_at hl 0 rfl) ?_
  refine lv_if_lt (tgt := 46) hx hb dX6_add_4 (by decide) (fun h => absurd h (by decide)) (fun _ => ?_)
  refine lv_aload_n hx hb dX6_add_7 rfl (lv_at hl 1 rfl) ?_
  refine va_get (ci := 6) (v := .int 5) (C := RX6) (T := TX6) (N := 12) hx hb hts inlX6 hown hK hP 0 rfl rfl 1 (by decide) (hts _ kw_167) (fun _ h9 => h9) rfl dX6_add_8 ?_
  refine lv_sipush (v := 1600) hx hb dX6_add_11 (by decide) ?_
  refine lv_icmp_ge (tgt := 46) hx hb dX6_add_14 (by decide) (fun h => absurd h (by decide)) (fun _ => ?_)
  refine lv_aload_n hx hb dX6_add_17 rfl (lv_at hl 1 rfl) ?_
  refine va_get (ci := 6) (v := .ref h1) (C := RX6) (T := TX6) (N := 12) hx hb hts inlX6 hown hK hP 0 rfl rfl 0 (by decide) (hts _ kw_48) (fun _ h9 => h9) rfl dX6_add_18 ?_
  refine lv_aload_n hx hb dX6_add_21 rfl (lv_at hl 1 rfl) ?_
  refine va_get (ci := 6) (v := .int 5) (C := RX6) (T := TX6) (N := 12) hx hb hts inlX6 hown hK hP 0 rfl rfl 1 (by decide) (hts _ kw_167) (fun _ h9 => h9) rfl dX6_add_22 ?_
  refine lv_iload_n hx hb dX6_add_25 rfl (lv_at hl 2 rfl) ?_
  refine lv_iload_n hx hb dX6_add_26 rfl (lv_at hl 0 rfl) ?_
  refine lv_ishr hx hb dX6_add_27 ?_
  refine lv_topi (fun y4 _ => ?_)
  refine lv_i2b hx hb dX6_add_28 rfl ?_
  refine lv_topi (fun y5 _ => ?_)
  refine va_bast (i := 5) (x := y5) hx hb hK hP hD hS 1 1 rfl rfl (iv_in (iv_c (x := (5 : Int32)) (k := 5) (by decide)) (by decide)) dX6_add_29 (fun H locs hP hD hS => ?_)
  obtain ⟨g6, hg6⟩ : ∃ gg : Nat → Int32, gg = upd g3 (5 : Int32).toNatClampNeg (vp_nar .byte y5) := ⟨_, rfl⟩
  rw [← hg6] at hP hD
  have hP : va_P D vwCl [(h0, .inr (6, [.ref h1, .int 5, z2, z3, z4, z5, z6, z7, z8, z9, z10, z11])), (h1, .inl (c0 1, 1600, .inl g6))] H := hP
  have hD : va_D A [(h0, .inr (6, [.ref h1, .int 5, z2, z3, z4, z5, z6, z7, z8, z9, z10, z11])), (h1, .inl (c0 1, 1600, .inl g6))] := hD
  refine lv_aload_n hx hb dX6_add_30 rfl (lv_at hl 1 rfl) ?_
  refine lv_dup hx hb dX6_add_31 rfl ?_
  refine va_get (ci := 6) (v := .int 5) (C := RX6) (T := TX6) (N := 12) hx hb hts inlX6 hown hK hP 0 rfl rfl 1 (by decide) (hts _ kw_167) (fun _ h9 => h9) rfl dX6_add_32 ?_
  refine lv_iconst (v := 1) hx hb dX6_add_35 (by decide) ?_
  refine lv_iadd hx hb dX6_add_36 ?_
  refine lv_topi (fun w9 e9 => ?_)
  obtain rfl : w9 = 6 := e9.trans (by decide)
  refine va_put (D := D) (ci := 6) (v := .int 6) (ty := .int) (C := RX6) (T := TX6) (N := 12) hx hb hts inlX6 tyX6 tyX6_ok nmX6 hown hK hP hD hS 0 rfl rfl 1 (by decide) (hts _ kw_167) (fun _ h9 => h9) rfl (by decide +kernel) rfl rfl (Nat.le_of_ble_eq_true rfl) dX6_add_37 (fun H locs hP hD hS => ?_)
  have hP : va_P D vwCl [(h0, .inr (6, [.ref h1, .int 6, z2, z3, z4, z5, z6, z7, z8, z9, z10, z11])), (h1, .inl (c0 1, 1600, .inl g6))] H := hP
  have hD : va_D A [(h0, .inr (6, [.ref h1, .int 6, z2, z3, z4, z5, z6, z7, z8, z9, z10, z11])), (h1, .inl (c0 1, 1600, .inl g6))] := hD
  refine lv_iinc (v := 8) (lv' := [(2, .int 8), (0, .ref h0), (1, .int x1)]) hx hb dX6_add_40 hl (k := 0) rfl (by decide) (by decide) rfl (fun ls hl => ?_)
  refine lv_goto (tgt := 3) hx hb dX6_add_43 (by decide) ?_
  refine lv_iload_n hx hb dX6_add_3 rfl (lv_at hl 0 rfl) ?_
  refine lv_if_lt (tgt := 46) hx hb dX6_add_4 (by decide) (fun h => absurd h (by decide)) (fun _ => ?_)
  refine lv_aload_n hx hb dX6_add_7 rfl (lv_at hl 1 rfl) ?_
  refine va_get (ci := 6) (v := .int 6) (C := RX6) (T := TX6) (N := 12) hx hb hts inlX6 hown hK hP 0 rfl rfl 1 (by decide) (hts _ kw_167) (fun _ h9 => h9) rfl dX6_add_8 ?_
  refine lv_sipush (v := 1600) hx hb dX6_add_11 (by decide) ?_
  refine lv_icmp_ge (tgt := 46) hx hb dX6_add_14 (by decide) (fun h => absurd h (by decide)) (fun _ => ?_)
  refine lv_aload_n hx hb dX6_add_17 rfl (lv_at hl 1 rfl) ?_
  refine va_get (ci := 6) (v := .ref h1) (C := RX6) (T := TX6) (N := 12) hx hb hts inlX6 hown hK hP 0 rfl rfl 0 (by decide) (hts _ kw_48) (fun _ h9 => h9) rfl dX6_add_18 ?_
  refine lv_aload_n hx hb dX6_add_21 rfl (lv_at hl 1 rfl) ?_
  refine va_get (ci := 6) (v := .int 6) (C := RX6) (T := TX6) (N := 12) hx hb hts inlX6 hown hK hP 0 rfl rfl 1 (by decide) (hts _ kw_167) (fun _ h9 => h9) rfl dX6_add_22 ?_
  refine lv_iload_n hx hb dX6_add_25 rfl (lv_at hl 2 rfl) ?_
  refine lv_iload_n hx hb dX6_add_26 rfl (lv_at hl 0 rfl) ?_
  refine lv_ishr hx hb dX6_add_27 ?_
  refine lv_topi (fun y7 _ => ?_)
  refine lv_i2b hx hb dX6_add_28 rfl ?_
  refine lv_topi (fun y8 _ => ?_)
  refine va_bast (i := 6) (x := y8) hx hb hK hP hD hS 1 1 rfl rfl (iv_in (iv_c (x := (6 : Int32)) (k := 6) (by decide)) (by decide)) dX6_add_29 (fun H locs hP hD hS => ?_)
  obtain ⟨g9, hg9⟩ : ∃ gg : Nat → Int32, gg = upd g6 (6 : Int32).toNatClampNeg (vp_nar .byte y8) := ⟨_, rfl⟩
  rw [← hg9] at hP hD
  have hP : va_P D vwCl [(h0, .inr (6, [.ref h1, .int 6, z2, z3, z4, z5, z6, z7, z8, z9, z10, z11])), (h1, .inl (c0 1, 1600, .inl g9))] H := hP
  have hD : va_D A [(h0, .inr (6, [.ref h1, .int 6, z2, z3, z4, z5, z6, z7, z8, z9, z10, z11])), (h1, .inl (c0 1, 1600, .inl g9))] := hD
  refine lv_aload_n hx hb dX6_add_30 rfl (lv_at hl 1 rfl) ?_
  refine lv_dup hx hb dX6_add_31 rfl ?_
  refine va_get (ci := 6) (v := .int 6) (C := RX6) (T := TX6) (N := 12) hx hb hts inlX6 hown hK hP 0 rfl rfl 1 (by decide) (hts _ kw_167) (fun _ h9 => h9) rfl dX6_add_32 ?_
  refine lv_iconst (v := 1) hx hb dX6_add_35 (by decide) ?_
  refine lv_iadd hx hb dX6_add_36 ?_
  refine lv_topi (fun w9 e9 => ?_)
  obtain rfl : w9 = 7 := e9.trans (by decide)
  refine va_put (D := D) (ci := 6) (v := .int 7) (ty := .int) (C := RX6) (T := TX6) (N := 12) hx hb hts inlX6 tyX6 tyX6_ok nmX6 hown hK hP hD hS 0 rfl rfl 1 (by decide) (hts _ kw_167) (fun _ h9 => h9) rfl (by decide +kernel) rfl rfl (Nat.le_of_ble_eq_true rfl) dX6_add_37 (fun H locs hP hD hS => ?_)
  have hP : va_P D vwCl [(h0, .inr (6, [.ref h1, .int 7, z2, z3, z4, z5, z6, z7, z8, z9, z10, z11])), (h1, .inl (c0 1, 1600, .inl g9))] H := hP
  have hD : va_D A [(h0, .inr (6, [.ref h1, .int 7, z2, z3, z4, z5, z6, z7, z8, z9, z10, z11])), (h1, .inl (c0 1, 1600, .inl g9))] := hD
  refine lv_iinc (v := 0) (lv' := [(2, .int 0), (0, .ref h0), (1, .int x1)]) hx hb dX6_add_40 hl (k := 0) rfl (by decide) (by decide) rfl (fun ls hl => ?_)
  refine lv_goto (tgt := 3) hx hb dX6_add_43 (by decide) ?_
  refine lv_iload_n hx hb dX6_add_3 rfl (lv_at hl 0 rfl) ?_
  refine lv_if_lt (tgt := 46) hx hb dX6_add_4 (by decide) (fun h => absurd h (by decide)) (fun _ => ?_)
  refine lv_aload_n hx hb dX6_add_7 rfl (lv_at hl 1 rfl) ?_
  refine va_get (ci := 6) (v := .int 7) (C := RX6) (T := TX6) (N := 12) hx hb hts inlX6 hown hK hP 0 rfl rfl 1 (by decide) (hts _ kw_167) (fun _ h9 => h9) rfl dX6_add_8 ?_
  refine lv_sipush (v := 1600) hx hb dX6_add_11 (by decide) ?_
  refine lv_icmp_ge (tgt := 46) hx hb dX6_add_14 (by decide) (fun h => absurd h (by decide)) (fun _ => ?_)
  refine lv_aload_n hx hb dX6_add_17 rfl (lv_at hl 1 rfl) ?_
  refine va_get (ci := 6) (v := .ref h1) (C := RX6) (T := TX6) (N := 12) hx hb hts inlX6 hown hK hP 0 rfl rfl 0 (by decide) (hts _ kw_48) (fun _ h9 => h9) rfl dX6_add_18 ?_
  refine lv_aload_n hx hb dX6_add_21 rfl (lv_at hl 1 rfl) ?_
  refine va_get (ci := 6) (v := .int 7) (C := RX6) (T := TX6) (N := 12) hx hb hts inlX6 hown hK hP 0 rfl rfl 1 (by decide) (hts _ kw_167) (fun _ h9 => h9) rfl dX6_add_22 ?_
  refine lv_iload_n hx hb dX6_add_25 rfl (lv_at hl 2 rfl) ?_
  refine lv_iload_n hx hb dX6_add_26 rfl (lv_at hl 0 rfl) ?_
  refine lv_ishr hx hb dX6_add_27 ?_
  refine lv_topi (fun y10 _ => ?_)
  refine lv_i2b hx hb dX6_add_28 rfl ?_
  refine lv_topi (fun y11 _ => ?_)
  refine va_bast (i := 7) (x := y11) hx hb hK hP hD hS 1 1 rfl rfl (iv_in (iv_c (x := (7 : Int32)) (k := 7) (by decide)) (by decide)) dX6_add_29 (fun H locs hP hD hS => ?_)
  obtain ⟨g12, hg12⟩ : ∃ gg : Nat → Int32, gg = upd g9 (7 : Int32).toNatClampNeg (vp_nar .byte y11) := ⟨_, rfl⟩
  rw [← hg12] at hP hD
  have hP : va_P D vwCl [(h0, .inr (6, [.ref h1, .int 7, z2, z3, z4, z5, z6, z7, z8, z9, z10, z11])), (h1, .inl (c0 1, 1600, .inl g12))] H := hP
  have hD : va_D A [(h0, .inr (6, [.ref h1, .int 7, z2, z3, z4, z5, z6, z7, z8, z9, z10, z11])), (h1, .inl (c0 1, 1600, .inl g12))] := hD
  refine lv_aload_n hx hb dX6_add_30 rfl (lv_at hl 1 rfl) ?_
  refine lv_dup hx hb dX6_add_31 rfl ?_
  refine va_get (ci := 6) (v := .int 7) (C := RX6) (T := TX6) (N := 12) hx hb hts inlX6 hown hK hP 0 rfl rfl 1 (by decide) (hts _ kw_167) (fun _ h9 => h9) rfl dX6_add_32 ?_
  refine lv_iconst (v := 1) hx hb dX6_add_35 (by decide) ?_
  refine lv_iadd hx hb dX6_add_36 ?_
  refine lv_topi (fun w9 e9 => ?_)
  obtain rfl : w9 = 8 := e9.trans (by decide)
  refine va_put (D := D) (ci := 6) (v := .int 8) (ty := .int) (C := RX6) (T := TX6) (N := 12) hx hb hts inlX6 tyX6 tyX6_ok nmX6 hown hK hP hD hS 0 rfl rfl 1 (by decide) (hts _ kw_167) (fun _ h9 => h9) rfl (by decide +kernel) rfl rfl (Nat.le_of_ble_eq_true rfl) dX6_add_37 (fun H locs hP hD hS => ?_)
  have hP : va_P D vwCl [(h0, .inr (6, [.ref h1, .int 8, z2, z3, z4, z5, z6, z7, z8, z9, z10, z11])), (h1, .inl (c0 1, 1600, .inl g12))] H := hP
  have hD : va_D A [(h0, .inr (6, [.ref h1, .int 8, z2, z3, z4, z5, z6, z7, z8, z9, z10, z11])), (h1, .inl (c0 1, 1600, .inl g12))] := hD
  refine lv_iinc (v := (-8)) (lv' := [(2, .int (-8)), (0, .ref h0), (1, .int x1)]) hx hb dX6_add_40 hl (k := 0) rfl (by decide) (by decide) rfl (fun ls hl => ?_)
  refine lv_goto (tgt := 3) hx hb dX6_add_43 (by decide) ?_
  refine lv_iload_n hx hb dX6_add_3 rfl (lv_at hl 0 rfl) ?_
  refine lv_if_lt (tgt := 46) hx hb dX6_add_4 (by decide) (fun _ => ?_) (fun h => absurd (by decide) h)
  exact W.vret hx hb hr (fun t ht hW => ⟨⟨rfl, g12, by rw [ht]; exact hP, hD⟩, hS.F ht⟩) hS.2.2 dX6_add_46 hlocks
set_option maxHeartbeats 4000000 in
set_option maxRecDepth 100000 in
theorem n_X6_add_8 (l : Launch) {D : va_G} {c0 : Nat → ClassId} {H : Heap} {h0 h1 : Nat} {z2 z3 z4 z5 z6 z7 z8 z9 z10 z11 : Value} {g0 : Nat → Int32} {x1 : Int32} (hP : va_P D vwCl [(h0, .inr (6, [.ref h1, .int 8, z2, z3, z4, z5, z6, z7, z8, z9, z10, z11])), (h1, .inl (c0 1, 1600, .inl g0))] H) (hD0 : va_D (fun _ => True) [(h0, .inr (6, [.ref h1, .int 8, z2, z3, z4, z5, z6, z7, z8, z9, z10, z11])), (h1, .inl (c0 1, 1600, .inl g0))]) : Met l yX6_add (wz yX6_add cX6_add 3 none) { frames := 1, cells := 0, slots := 0, locals := 12 } (NP D (tysOf c0) H [.ref h0, .int x1]) (NQ (va_A [(h0, .inr (6, [.ref h1, .int 8, z2, z3, z4, z5, z6, z7, z8, z9, z10, z11])), (h1, .inl (c0 1, 1600, .inl g0))] H.size) (fun H' => ∃ g12 : Nat → Int32, va_P D vwCl [(h0, .inr (6, [.ref h1, .int 12, z2, z3, z4, z5, z6, z7, z8, z9, z10, z11])), (h1, .inl (c0 1, 1600, .inl g12))] H' ∧ va_D (va_A [(h0, .inr (6, [.ref h1, .int 8, z2, z3, z4, z5, z6, z7, z8, z9, z10, z11])), (h1, .inl (c0 1, 1600, .inl g0))] H.size) [(h0, .inr (6, [.ref h1, .int 12, z2, z3, z4, z5, z6, z7, z8, z9, z10, z11])), (h1, .inl (c0 1, 1600, .inl g12))])) 0 0 (va_A [(h0, .inr (6, [.ref h1, .int 8, z2, z3, z4, z5, z6, z7, z8, z9, z10, z11])), (h1, .inl (c0 1, 1600, .inl g0))] H.size) := by
  refine Met.ofW (cc := cX6_add) (maxL := 3) (ret := none) (by decide) rfl ?_
  intro p e s m args below meth c s₁ B hml hv
  obtain ⟨rfl, rfl, hK, hN⟩ := hv
  have hx := B.exec
  have hb := B.bytes
  have hr := B.returns
  have hts : ∀ w ∈ wq, w.before _ s = true := fun w h => atoms_spec (ws := wz yX6_add cX6_add 3 none) B.pre w (List.mem_cons_of_mem _ h)
  have hown : s.vm.findClass RX6 = some m.cls := findClass_of_methodNamed B.named
  have hlocks := B.notSynchronized
  have hin : meth.name = "add" := (name_of_methodNamed B.named B.method).1
  obtain ⟨R, hR⟩ : ∃ R : Room, R = ({ frames := 1, cells := 0, slots := 0, locals := 12 } : Room) := ⟨_, rfl⟩
  rw [show (headSpec (wz yX6_add cX6_add 3 none) { frames := 1, cells := 0, slots := 0, locals := 12 }).room = R from hR.symm]
  have hD := hD0.self (sz := s.heap.size)
  generalize hAe : va_A [(h0, .inr (6, [.ref h1, .int 8, z2, z3, z4, z5, z6, z7, z8, z9, z10, z11])), (h1, .inl (c0 1, 1600, .inl g0))] s.heap.size = A at hD ⊢
  have hA : ∀ q : Nat, s.heap.size ≤ q → A q := fun q h => by rw [← hAe]; exact Or.inr h
  have hl := lv_entry [.ref h0, .int x1] (n := 3) (Nat.le_of_ble_eq_true rfl)
  rw [lg_entry_eq]
  generalize (lg_sl [.ref h0, .int x1] ++ List.replicate (3 - (lg_sl [.ref h0, .int x1]).length) Slot.unset).toArray = ls at hl ⊢
  have hl : lv_has ls 3 [(0, .ref h0), (1, .int x1)] := hl
  have hS : va_S A s.heap s.heap [] := va_S.rf
  suffices key : ∀ (H : Heap) (locs : List Loc), va_P D vwCl [(h0, .inr (6, [.ref h1, .int 8, z2, z3, z4, z5, z6, z7, z8, z9, z10, z11])), (h1, .inl (c0 1, 1600, .inl g0))] H → va_S A s.heap H locs → W p l e R s m ([.ref h0, .int x1] : List Value).toArray below meth c H locs 0 0 (MQ below (NQ A (fun H' => ∃ g12 : Nat → Int32, va_P D vwCl [(h0, .inr (6, [.ref h1, .int 12, z2, z3, z4, z5, z6, z7, z8, z9, z10, z11])), (h1, .inl (c0 1, 1600, .inl g12))] H' ∧ va_D A [(h0, .inr (6, [.ref h1, .int 12, z2, z3, z4, z5, z6, z7, z8, z9, z10, z11])), (h1, .inl (c0 1, 1600, .inl g12))])) ([.ref h0, .int x1] : List Value).toArray s 0 0 A) (F0 m 0 ls []) from key s.heap [] hP hS
  clear hP hS
  intro H locs hP hS
  refine lv_bipush (v := 24) hx hb dX6_add_0 (by decide) ?_
  refine lv_istore_n (lv' := [(2, .int 24), (0, .ref h0), (1, .int x1)]) hx hb dX6_add_2 rfl hl (by decide) rfl (fun ls hl => ?_)
  refine lv_iload_n hx hb dX6_add_3 rfl (lv_at hl 0 rfl) ?_
  refine lv_if_lt (tgt := 46) hx hb dX6_add_4 (by decide) (fun h => absurd h (by decide)) (fun _ => ?_)
  refine lv_aload_n hx hb dX6_add_7 rfl (lv_at hl 1 rfl) ?_
  refine va_get (ci := 6) (v := .int 8) (C := RX6) (T := TX6) (N := 12) hx hb hts inlX6 hown hK hP 0 rfl rfl 1 (by decide) (hts _ kw_167) (fun _ h9 => h9) rfl dX6_add_8 ?_
  refine lv_sipush (v := 1600) hx hb dX6_add_11 (by decide) ?_
  refine lv_icmp_ge (tgt := 46) hx hb dX6_add_14 (by decide) (fun h => absurd h (by decide)) (fun _ => ?_)
  refine lv_aload_n hx hb dX6_add_17 rfl (lv_at hl 1 rfl) ?_
  refine va_get (ci := 6) (v := .ref h1) (C := RX6) (T := TX6) (N := 12) hx hb hts inlX6 hown hK hP 0 rfl rfl 0 (by decide) (hts _ kw_48) (fun _ h9 => h9) rfl dX6_add_18 ?_
  refine lv_aload_n hx hb dX6_add_21 rfl (lv_at hl 1 rfl) ?_
  refine va_get (ci := 6) (v := .int 8) (C := RX6) (T := TX6) (N := 12) hx hb hts inlX6 hown hK hP 0 rfl rfl 1 (by decide) (hts _ kw_167) (fun _ h9 => h9) rfl dX6_add_22 ?_
  refine lv_iload_n hx hb dX6_add_25 rfl (lv_at hl 2 rfl) ?_
  refine lv_iload_n hx hb dX6_add_26 rfl (lv_at hl 0 rfl) ?_
  refine lv_ishr hx hb dX6_add_27 ?_
  refine lv_topi (fun y1 _ => ?_)
  refine lv_i2b hx hb dX6_add_28 rfl ?_
  refine lv_topi (fun y2 _ => ?_)
  refine va_bast (i := 8) (x := y2) hx hb hK hP hD hS 1 1 rfl rfl (iv_in (iv_c (x := (8 : Int32)) (k := 8) (by decide)) (by decide)) dX6_add_29 (fun H locs hP hD hS => ?_)
  obtain ⟨g3, hg3⟩ : ∃ gg : Nat → Int32, gg = upd g0 (8 : Int32).toNatClampNeg (vp_nar .byte y2) := ⟨_, rfl⟩
  rw [← hg3] at hP hD
  have hP : va_P D vwCl [(h0, .inr (6, [.ref h1, .int 8, z2, z3, z4, z5, z6, z7, z8, z9, z10, z11])), (h1, .inl (c0 1, 1600, .inl g3))] H := hP
  have hD : va_D A [(h0, .inr (6, [.ref h1, .int 8, z2, z3, z4, z5, z6, z7, z8, z9, z10, z11])), (h1, .inl (c0 1, 1600, .inl g3))] := hD
  refine lv_aload_n hx hb dX6_add_30 rfl (lv_at hl 1 rfl) ?_
  refine lv_dup hx hb dX6_add_31 rfl ?_
  refine va_get (ci := 6) (v := .int 8) (C := RX6) (T := TX6) (N := 12) hx hb hts inlX6 hown hK hP 0 rfl rfl 1 (by decide) (hts _ kw_167) (fun _ h9 => h9) rfl dX6_add_32 ?_
  refine lv_iconst (v := 1) hx hb dX6_add_35 (by decide) ?_
  refine lv_iadd hx hb dX6_add_36 ?_
  refine lv_topi (fun w9 e9 => ?_)
  obtain rfl : w9 = 9 := e9.trans (by decide)
  refine va_put (D := D) (ci := 6) (v := .int 9) (ty := .int) (C := RX6) (T := TX6) (N := 12) hx hb hts inlX6 tyX6 tyX6_ok nmX6 hown hK hP hD hS 0 rfl rfl 1 (by decide) (hts _ kw_167) (fun _ h9 => h9) rfl (by decide +kernel) rfl rfl (Nat.le_of_ble_eq_true rfl) dX6_add_37 (fun H locs hP hD hS => ?_)
  have hP : va_P D vwCl [(h0, .inr (6, [.ref h1, .int 9, z2, z3, z4, z5, z6, z7, z8, z9, z10, z11])), (h1, .inl (c0 1, 1600, .inl g3))] H := hP
  have hD : va_D A [(h0, .inr (6, [.ref h1, .int 9, z2, z3, z4, z5, z6, z7, z8, z9, z10, z11])), (h1, .inl (c0 1, 1600, .inl g3))] := hD
  refine lv_iinc (v := 16) (lv' := [(2, .int 16), (0, .ref h0), (1, .int x1)]) hx hb dX6_add_40 hl (k := 0) rfl (by decide) (by decide) rfl (fun ls hl => ?_)
  refine lv_goto (tgt := 3) hx hb dX6_add_43 (by decide) ?_
  refine lv_iload_n hx hb dX6_add_3 rfl (lv_at hl 0 rfl) ?_
  refine lv_if_lt (tgt := 46) hx hb dX6_add_4 (by decide) (fun h => absurd h (by decide)) (fun _ => ?_)
  refine lv_aload_n hx hb dX6_add_7 rfl (lv_at hl 1 rfl) ?_
  refine va_get (ci := 6) (v := .int 9) (C := RX6) (T := TX6) (N := 12) hx hb hts inlX6 hown hK hP 0 rfl rfl 1 (by decide) (hts _ kw_167) (fun _ h9 => h9) rfl dX6_add_8 ?_
  refine lv_sipush (v := 1600) hx hb dX6_add_11 (by decide) ?_
  refine lv_icmp_ge (tgt := 46) hx hb dX6_add_14 (by decide) (fun h => absurd h (by decide)) (fun _ => ?_)
  refine lv_aload_n hx hb dX6_add_17 rfl (lv_at hl 1 rfl) ?_
  refine va_get (ci := 6) (v := .ref h1) (C := RX6) (T := TX6) (N := 12) hx hb hts inlX6 hown hK hP 0 rfl rfl 0 (by decide) (hts _ kw_48) (fun _ h9 => h9) rfl dX6_add_18 ?_
  refine lv_aload_n hx hb dX6_add_21 rfl (lv_at hl 1 rfl) ?_
  refine va_get (ci := 6) (v := .int 9) (C := RX6) (T := TX6) (N := 12) hx hb hts inlX6 hown hK hP 0 rfl rfl 1 (by decide) (hts _ kw_167) (fun _ h9 => h9) rfl dX6_add_22 ?_
  refine lv_iload_n hx hb dX6_add_25 rfl (lv_at hl 2 rfl) ?_
  refine lv_iload_n hx hb dX6_add_26 rfl (lv_at hl 0 rfl) ?_
  refine lv_ishr hx hb dX6_add_27 ?_
  refine lv_topi (fun y4 _ => ?_)
  refine lv_i2b hx hb dX6_add_28 rfl ?_
  refine lv_topi (fun y5 _ => ?_)
  refine va_bast (i := 9) (x := y5) hx hb hK hP hD hS 1 1 rfl rfl (iv_in (iv_c (x := (9 : Int32)) (k := 9) (by decide)) (by decide)) dX6_add_29 (fun H locs hP hD hS => ?_)
  obtain ⟨g6, hg6⟩ : ∃ gg : Nat → Int32, gg = upd g3 (9 : Int32).toNatClampNeg (vp_nar .byte y5) := ⟨_, rfl⟩
  rw [← hg6] at hP hD
  have hP : va_P D vwCl [(h0, .inr (6, [.ref h1, .int 9, z2, z3, z4, z5, z6, z7, z8, z9, z10, z11])), (h1, .inl (c0 1, 1600, .inl g6))] H := hP
  have hD : va_D A [(h0, .inr (6, [.ref h1, .int 9, z2, z3, z4, z5, z6, z7, z8, z9, z10, z11])), (h1, .inl (c0 1, 1600, .inl g6))] := hD
  refine lv_aload_n hx hb dX6_add_30 rfl (lv_at hl 1 rfl) ?_
  refine lv_dup hx hb dX6_add_31 rfl ?_
  refine va_get (ci := 6) (v := .int 9) (C := RX6) (T := TX6) (N := 12) hx hb hts inlX6 hown hK hP 0 rfl rfl 1 (by decide) (hts _ kw_167) (fun _ h9 => h9) rfl dX6_add_32 ?_
  refine lv_iconst (v := 1) hx hb dX6_add_35 (by decide) ?_
  refine lv_iadd hx hb dX6_add_36 ?_
  refine lv_topi (fun w9 e9 => ?_)
  obtain rfl : w9 = 10 := e9.trans (by decide)
  refine va_put (D := D) (ci := 6) (v := .int 10) (ty := .int) (C := RX6) (T := TX6) (N := 12) hx hb hts inlX6 tyX6 tyX6_ok nmX6 hown hK hP hD hS 0 rfl rfl 1 (by decide) (hts _ kw_167) (fun _ h9 => h9) rfl (by decide +kernel) rfl rfl (Nat.le_of_ble_eq_true rfl) dX6_add_37 (fun H locs hP hD hS => ?_)
  have hP : va_P D vwCl [(h0, .inr (6, [.ref h1, .int 10, z2, z3, z4, z5, z6, z7, z8, z9, z10, z11])), (h1, .inl (c0 1, 1600, .inl g6))] H := hP
  have hD : va_D A [(h0, .inr (6, [.ref h1, .int 10, z2, z3, z4, z5, z6, z7, z8, z9, z10, z11])), (h1, .inl (c0 1, 1600, .inl g6))] := hD
  refine lv_iinc (v := 8) (lv' := [(2, .int 8), (0, .ref h0), (1, .int x1)]) hx hb dX6_add_40 hl (k := 0) rfl (by decide) (by decide) rfl (fun ls hl => ?_)
  refine lv_goto (tgt := 3) hx hb dX6_add_43 (by decide) ?_
  refine lv_iload_n hx hb dX6_add_3 rfl (lv_at hl 0 rfl) ?_
  refine lv_if_lt (tgt := 46) hx hb dX6_add_4 (by decide) (fun h => absurd h (by decide)) (fun _ => ?_)
  refine lv_aload_n hx hb dX6_add_7 rfl (lv_at hl 1 rfl) ?_
  refine va_get (ci := 6) (v := .int 10) (C := RX6) (T := TX6) (N := 12) hx hb hts inlX6 hown hK hP 0 rfl rfl 1 (by decide) (hts _ kw_167) (fun _ h9 => h9) rfl dX6_add_8 ?_
  refine lv_sipush (v := 1600) hx hb dX6_add_11 (by decide) ?_
  refine lv_icmp_ge (tgt := 46) hx hb dX6_add_14 (by decide) (fun h => absurd h (by decide)) (fun _ => ?_)
  refine lv_aload_n hx hb dX6_add_17 rfl (lv_at hl 1 rfl) ?_
  refine va_get (ci := 6) (v := .ref h1) (C := RX6) (T := TX6) (N := 12) hx hb hts inlX6 hown hK hP 0 rfl rfl 0 (by decide) (hts _ kw_48) (fun _ h9 => h9) rfl dX6_add_18 ?_
  refine lv_aload_n hx hb dX6_add_21 rfl (lv_at hl 1 rfl) ?_
  refine va_get (ci := 6) (v := .int 10) (C := RX6) (T := TX6) (N := 12) hx hb hts inlX6 hown hK hP 0 rfl rfl 1 (by decide) (hts _ kw_167) (fun _ h9 => h9) rfl dX6_add_22 ?_
  refine lv_iload_n hx hb dX6_add_25 rfl (lv_at hl 2 rfl) ?_
  refine lv_iload_n hx hb dX6_add_26 rfl (lv_at hl 0 rfl) ?_
  refine lv_ishr hx hb dX6_add_27 ?_
  refine lv_topi (fun y7 _ => ?_)
  refine lv_i2b hx hb dX6_add_28 rfl ?_
  refine lv_topi (fun y8 _ => ?_)
  refine va_bast (i := 10) (x := y8) hx hb hK hP hD hS 1 1 rfl rfl (iv_in (iv_c (x := (10 : Int32)) (k := 10) (by decide)) (by decide)) dX6_add_29 (fun H locs hP hD hS => ?_)
  obtain ⟨g9, hg9⟩ : ∃ gg : Nat → Int32, gg = upd g6 (10 : Int32).toNatClampNeg (vp_nar .byte y8) := ⟨_, rfl⟩
  rw [← hg9] at hP hD
  have hP : va_P D vwCl [(h0, .inr (6, [.ref h1, .int 10, z2, z3, z4, z5, z6, z7, z8, z9, z10, z11])), (h1, .inl (c0 1, 1600, .inl g9))] H := hP
  have hD : va_D A [(h0, .inr (6, [.ref h1, .int 10, z2, z3, z4, z5, z6, z7, z8, z9, z10, z11])), (h1, .inl (c0 1, 1600, .inl g9))] := hD
  refine lv_aload_n hx hb dX6_add_30 rfl (lv_at hl 1 rfl) ?_
  refine lv_dup hx hb dX6_add_31 rfl ?_
  refine va_get (ci := 6) (v := .int 10) (C := RX6) (T := TX6) (N := 12) hx hb hts inlX6 hown hK hP 0 rfl rfl 1 (by decide) (hts _ kw_167) (fun _ h9 => h9) rfl dX6_add_32 ?_
  refine lv_iconst (v := 1) hx hb dX6_add_35 (by decide) ?_
  refine lv_iadd hx hb dX6_add_36 ?_
  refine lv_topi (fun w9 e9 => ?_)
  obtain rfl : w9 = 11 := e9.trans (by decide)
  refine va_put (D := D) (ci := 6) (v := .int 11) (ty := .int) (C := RX6) (T := TX6) (N := 12) hx hb hts inlX6 tyX6 tyX6_ok nmX6 hown hK hP hD hS 0 rfl rfl 1 (by decide) (hts _ kw_167) (fun _ h9 => h9) rfl (by decide +kernel) rfl rfl (Nat.le_of_ble_eq_true rfl) dX6_add_37 (fun H locs hP hD hS => ?_)
  have hP : va_P D vwCl [(h0, .inr (6, [.ref h1, .int 11, z2, z3, z4, z5, z6, z7, z8, z9, z10, z11])), (h1, .inl (c0 1, 1600, .inl g9))] H := hP
  have hD : va_D A [(h0, .inr (6, [.ref h1, .int 11, z2, z3, z4, z5, z6, z7, z8, z9, z10, z11])), (h1, .inl (c0 1, 1600, .inl g9))] := hD
  refine lv_iinc (v := 0) (lv' := [(2, .int 0), (0, .ref h0), (1, .int x1)]) hx hb dX6_add_40 hl (k := 0) rfl (by decide) (by decide) rfl (fun ls hl => ?_)
  refine lv_goto (tgt := 3) hx hb dX6_add_43 (by decide) ?_
  refine lv_iload_n hx hb dX6_add_3 rfl (lv_at hl 0 rfl) ?_
  refine lv_if_lt (tgt := 46) hx hb dX6_add_4 (by decide) (fun h => absurd h (by decide)) (fun _ => ?_)
  refine lv_aload_n hx hb dX6_add_7 rfl (lv_at hl 1 rfl) ?_
  refine va_get (ci := 6) (v := .int 11) (C := RX6) (T := TX6) (N := 12) hx hb hts inlX6 hown hK hP 0 rfl rfl 1 (by decide) (hts _ kw_167) (fun _ h9 => h9) rfl dX6_add_8 ?_
  refine lv_sipush (v := 1600) hx hb dX6_add_11 (by decide) ?_
  refine lv_icmp_ge (tgt := 46) hx hb dX6_add_14 (by decide) (fun h => absurd h (by decide)) (fun _ => ?_)
  refine lv_aload_n hx hb dX6_add_17 rfl (lv_at hl 1 rfl) ?_
  refine va_get (ci := 6) (v := .ref h1) (C := RX6) (T := TX6) (N := 12) hx hb hts inlX6 hown hK hP 0 rfl rfl 0 (by decide) (hts _ kw_48) (fun _ h9 => h9) rfl dX6_add_18 ?_
  refine lv_aload_n hx hb dX6_add_21 rfl (lv_at hl 1 rfl) ?_
  refine va_get (ci := 6) (v := .int 11) (C := RX6) (T := TX6) (N := 12) hx hb hts inlX6 hown hK hP 0 rfl rfl 1 (by decide) (hts _ kw_167) (fun _ h9 => h9) rfl dX6_add_22 ?_
  refine lv_iload_n hx hb dX6_add_25 rfl (lv_at hl 2 rfl) ?_
  refine lv_iload_n hx hb dX6_add_26 rfl (lv_at hl 0 rfl) ?_
  refine lv_ishr hx hb dX6_add_27 ?_
  refine lv_topi (fun y10 _ => ?_)
  refine lv_i2b hx hb dX6_add_28 rfl ?_
  refine lv_topi (fun y11 _ => ?_)
  refine va_bast (i := 11) (x := y11) hx hb hK hP hD hS 1 1 rfl rfl (iv_in (iv_c (x := (11 : Int32)) (k := 11) (by decide)) (by decide)) dX6_add_29 (fun H locs hP hD hS => ?_)
  obtain ⟨g12, hg12⟩ : ∃ gg : Nat → Int32, gg = upd g9 (11 : Int32).toNatClampNeg (vp_nar .byte y11) := ⟨_, rfl⟩
  rw [← hg12] at hP hD
  have hP : va_P D vwCl [(h0, .inr (6, [.ref h1, .int 11, z2, z3, z4, z5, z6, z7, z8, z9, z10, z11])), (h1, .inl (c0 1, 1600, .inl g12))] H := hP
  have hD : va_D A [(h0, .inr (6, [.ref h1, .int 11, z2, z3, z4, z5, z6, z7, z8, z9, z10, z11])), (h1, .inl (c0 1, 1600, .inl g12))] := hD
  refine lv_aload_n hx hb dX6_add_30 rfl (lv_at hl 1 rfl) ?_
  refine lv_dup hx hb dX6_add_31 rfl ?_
  refine va_get (ci := 6) (v := .int 11) (C := RX6) (T := TX6) (N := 12) hx hb hts inlX6 hown hK hP 0 rfl rfl 1 (by decide) (hts _ kw_167) (fun _ h9 => h9) rfl dX6_add_32 ?_
  refine lv_iconst (v := 1) hx hb dX6_add_35 (by decide) ?_
  refine lv_iadd hx hb dX6_add_36 ?_
  refine lv_topi (fun w9 e9 => ?_)
  obtain rfl : w9 = 12 := e9.trans (by decide)
  refine va_put (D := D) (ci := 6) (v := .int 12) (ty := .int) (C := RX6) (T := TX6) (N := 12) hx hb hts inlX6 tyX6 tyX6_ok nmX6 hown hK hP hD hS 0 rfl rfl 1 (by decide) (hts _ kw_167) (fun _ h9 => h9) rfl (by decide +kernel) rfl rfl (Nat.le_of_ble_eq_true rfl) dX6_add_37 (fun H locs hP hD hS => ?_)
  have hP : va_P D vwCl [(h0, .inr (6, [.ref h1, .int 12, z2, z3, z4, z5, z6, z7, z8, z9, z10, z11])), (h1, .inl (c0 1, 1600, .inl g12))] H := hP
  have hD : va_D A [(h0, .inr (6, [.ref h1, .int 12, z2, z3, z4, z5, z6, z7, z8, z9, z10, z11])), (h1, .inl (c0 1, 1600, .inl g12))] := hD
  refine lv_iinc (v := (-8)) (lv' := [(2, .int (-8)), (0, .ref h0), (1, .int x1)]) hx hb dX6_add_40 hl (k := 0) rfl (by decide) (by decide) rfl (fun ls hl => ?_)
  refine lv_goto (tgt := 3) hx hb dX6_add_43 (by decide) ?_
  refine lv_iload_n hx hb dX6_add_3 rfl (lv_at hl 0 rfl) ?_
  refine lv_if_lt (tgt := 46) hx hb dX6_add_4 (by decide) (fun _ => ?_) (fun h => absurd (by decide) h)
  exact W.vret hx hb hr (fun t ht hW => ⟨⟨rfl, g12, by rw [ht]; exact hP, hD⟩, hS.F ht⟩) hS.2.2 dX6_add_46 hlocks
set_option maxHeartbeats 4000000 in
set_option maxRecDepth 100000 in
theorem n_X6_add_12 (l : Launch) {D : va_G} {c0 : Nat → ClassId} {H : Heap} {h0 h1 : Nat} {z2 z3 z4 z5 z6 z7 z8 z9 z10 z11 : Value} {g0 : Nat → Int32} {x1 : Int32} (hP : va_P D vwCl [(h0, .inr (6, [.ref h1, .int 12, z2, z3, z4, z5, z6, z7, z8, z9, z10, z11])), (h1, .inl (c0 1, 1600, .inl g0))] H) (hD0 : va_D (fun _ => True) [(h0, .inr (6, [.ref h1, .int 12, z2, z3, z4, z5, z6, z7, z8, z9, z10, z11])), (h1, .inl (c0 1, 1600, .inl g0))]) : Met l yX6_add (wz yX6_add cX6_add 3 none) { frames := 1, cells := 0, slots := 0, locals := 12 } (NP D (tysOf c0) H [.ref h0, .int x1]) (NQ (va_A [(h0, .inr (6, [.ref h1, .int 12, z2, z3, z4, z5, z6, z7, z8, z9, z10, z11])), (h1, .inl (c0 1, 1600, .inl g0))] H.size) (fun H' => ∃ g12 : Nat → Int32, va_P D vwCl [(h0, .inr (6, [.ref h1, .int 16, z2, z3, z4, z5, z6, z7, z8, z9, z10, z11])), (h1, .inl (c0 1, 1600, .inl g12))] H' ∧ va_D (va_A [(h0, .inr (6, [.ref h1, .int 12, z2, z3, z4, z5, z6, z7, z8, z9, z10, z11])), (h1, .inl (c0 1, 1600, .inl g0))] H.size) [(h0, .inr (6, [.ref h1, .int 16, z2, z3, z4, z5, z6, z7, z8, z9, z10, z11])), (h1, .inl (c0 1, 1600, .inl g12))])) 0 0 (va_A [(h0, .inr (6, [.ref h1, .int 12, z2, z3, z4, z5, z6, z7, z8, z9, z10, z11])), (h1, .inl (c0 1, 1600, .inl g0))] H.size) := by
  refine Met.ofW (cc := cX6_add) (maxL := 3) (ret := none) (by decide) rfl ?_
  intro p e s m args below meth c s₁ B hml hv
  obtain ⟨rfl, rfl, hK, hN⟩ := hv
  have hx := B.exec
  have hb := B.bytes
  have hr := B.returns
  have hts : ∀ w ∈ wq, w.before _ s = true := fun w h => atoms_spec (ws := wz yX6_add cX6_add 3 none) B.pre w (List.mem_cons_of_mem _ h)
  have hown : s.vm.findClass RX6 = some m.cls := findClass_of_methodNamed B.named
  have hlocks := B.notSynchronized
  have hin : meth.name = "add" := (name_of_methodNamed B.named B.method).1
  obtain ⟨R, hR⟩ : ∃ R : Room, R = ({ frames := 1, cells := 0, slots := 0, locals := 12 } : Room) := ⟨_, rfl⟩
  rw [show (headSpec (wz yX6_add cX6_add 3 none) { frames := 1, cells := 0, slots := 0, locals := 12 }).room = R from hR.symm]
  have hD := hD0.self (sz := s.heap.size)
  generalize hAe : va_A [(h0, .inr (6, [.ref h1, .int 12, z2, z3, z4, z5, z6, z7, z8, z9, z10, z11])), (h1, .inl (c0 1, 1600, .inl g0))] s.heap.size = A at hD ⊢
  have hA : ∀ q : Nat, s.heap.size ≤ q → A q := fun q h => by rw [← hAe]; exact Or.inr h
  have hl := lv_entry [.ref h0, .int x1] (n := 3) (Nat.le_of_ble_eq_true rfl)
  rw [lg_entry_eq]
  generalize (lg_sl [.ref h0, .int x1] ++ List.replicate (3 - (lg_sl [.ref h0, .int x1]).length) Slot.unset).toArray = ls at hl ⊢
  have hl : lv_has ls 3 [(0, .ref h0), (1, .int x1)] := hl
  have hS : va_S A s.heap s.heap [] := va_S.rf
  suffices key : ∀ (H : Heap) (locs : List Loc), va_P D vwCl [(h0, .inr (6, [.ref h1, .int 12, z2, z3, z4, z5, z6, z7, z8, z9, z10, z11])), (h1, .inl (c0 1, 1600, .inl g0))] H → va_S A s.heap H locs → W p l e R s m ([.ref h0, .int x1] : List Value).toArray below meth c H locs 0 0 (MQ below (NQ A (fun H' => ∃ g12 : Nat → Int32, va_P D vwCl [(h0, .inr (6, [.ref h1, .int 16, z2, z3, z4, z5, z6, z7, z8, z9, z10, z11])), (h1, .inl (c0 1, 1600, .inl g12))] H' ∧ va_D A [(h0, .inr (6, [.ref h1, .int 16, z2, z3, z4, z5, z6, z7, z8, z9, z10, z11])), (h1, .inl (c0 1, 1600, .inl g12))])) ([.ref h0, .int x1] : List Value).toArray s 0 0 A) (F0 m 0 ls []) from key s.heap [] hP hS
  clear hP hS
  intro H locs hP hS
  refine lv_bipush (v := 24) hx hb dX6_add_0 (by decide) ?_
  refine lv_istore_n (lv' := [(2, .int 24), (0, .ref h0), (1, .int x1)]) hx hb dX6_add_2 rfl hl (by decide) rfl (fun ls hl => ?_)
  refine lv_iload_n hx hb dX6_add_3 rfl (lv_at hl 0 rfl) ?_
  refine lv_if_lt (tgt := 46) hx hb dX6_add_4 (by decide) (fun h => absurd h (by decide)) (fun _ => ?_)
  refine lv_aload_n hx hb dX6_add_7 rfl (lv_at hl 1 rfl) ?_
  refine va_get (ci := 6) (v := .int 12) (C := RX6) (T := TX6) (N := 12) hx hb hts inlX6 hown hK hP 0 rfl rfl 1 (by decide) (hts _ kw_167) (fun _ h9 => h9) rfl dX6_add_8 ?_
  refine lv_sipush (v := 1600) hx hb dX6_add_11 (by decide) ?_
  refine lv_icmp_ge (tgt := 46) hx hb dX6_add_14 (by decide) (fun h => absurd h (by decide)) (fun _ => ?_)
  refine lv_aload_n hx hb dX6_add_17 rfl (lv_at hl 1 rfl) ?_
  refine va_get (ci := 6) (v := .ref h1) (C := RX6) (T := TX6) (N := 12) hx hb hts inlX6 hown hK hP 0 rfl rfl 0 (by decide) (hts _ kw_48) (fun _ h9 => h9) rfl dX6_add_18 ?_
  refine lv_aload_n hx hb dX6_add_21 rfl (lv_at hl 1 rfl) ?_
  refine va_get (ci := 6) (v := .int 12) (C := RX6) (T := TX6) (N := 12) hx hb hts inlX6 hown hK hP 0 rfl rfl 1 (by decide) (hts _ kw_167) (fun _ h9 => h9) rfl dX6_add_22 ?_
  refine lv_iload_n hx hb dX6_add_25 rfl (lv_at hl 2 rfl) ?_
  refine lv_iload_n hx hb dX6_add_26 rfl (lv_at hl 0 rfl) ?_
  refine lv_ishr hx hb dX6_add_27 ?_
  refine lv_topi (fun y1 _ => ?_)
  refine lv_i2b hx hb dX6_add_28 rfl ?_
  refine lv_topi (fun y2 _ => ?_)
  refine va_bast (i := 12) (x := y2) hx hb hK hP hD hS 1 1 rfl rfl (iv_in (iv_c (x := (12 : Int32)) (k := 12) (by decide)) (by decide)) dX6_add_29 (fun H locs hP hD hS => ?_)
  obtain ⟨g3, hg3⟩ : ∃ gg : Nat → Int32, gg = upd g0 (12 : Int32).toNatClampNeg (vp_nar .byte y2) := ⟨_, rfl⟩
  rw [← hg3] at hP hD
  have hP : va_P D vwCl [(h0, .inr (6, [.ref h1, .int 12, z2, z3, z4, z5, z6, z7, z8, z9, z10, z11])), (h1, .inl (c0 1, 1600, .inl g3))] H := hP
  have hD : va_D A [(h0, .inr (6, [.ref h1, .int 12, z2, z3, z4, z5, z6, z7, z8, z9, z10, z11])), (h1, .inl (c0 1, 1600, .inl g3))] := hD
  refine lv_aload_n hx hb dX6_add_30 rfl (lv_at hl 1 rfl) ?_
  refine lv_dup hx hb dX6_add_31 rfl ?_
  refine va_get (ci := 6) (v := .int 12) (C := RX6) (T := TX6) (N := 12) hx hb hts inlX6 hown hK hP 0 rfl rfl 1 (by decide) (hts _ kw_167) (fun _ h9 => h9) rfl dX6_add_32 ?_
  refine lv_iconst (v := 1) hx hb dX6_add_35 (by decide) ?_
  refine lv_iadd hx hb dX6_add_36 ?_
  refine lv_topi (fun w9 e9 => ?_)
  obtain rfl : w9 = 13 := e9.trans (by decide)
  refine va_put (D := D) (ci := 6) (v := .int 13) (ty := .int) (C := RX6) (T := TX6) (N := 12) hx hb hts inlX6 tyX6 tyX6_ok nmX6 hown hK hP hD hS 0 rfl rfl 1 (by decide) (hts _ kw_167) (fun _ h9 => h9) rfl (by decide +kernel) rfl rfl (Nat.le_of_ble_eq_true rfl) dX6_add_37 (fun H locs hP hD hS => ?_)
  have hP : va_P D vwCl [(h0, .inr (6, [.ref h1, .int 13, z2, z3, z4, z5, z6, z7, z8, z9, z10, z11])), (h1, .inl (c0 1, 1600, .inl g3))] H := hP
  have hD : va_D A [(h0, .inr (6, [.ref h1, .int 13, z2, z3, z4, z5, z6, z7, z8, z9, z10, z11])), (h1, .inl (c0 1, 1600, .inl g3))] := hD
  refine lv_iinc (v := 16) (lv' := [(2, .int 16), (0, .ref h0), (1, .int x1)]) hx hb dX6_add_40 hl (k := 0) rfl (by decide) (by decide) rfl (fun ls hl => ?_)
  refine lv_goto (tgt := 3) hx hb dX6_add_43 (by decide) ?_
  refine lv_iload_n hx hb dX6_add_3 rfl (lv_at hl 0 rfl) ?_
  refine lv_if_lt (tgt := 46) hx hb dX6_add_4 (by decide) (fun h => absurd h (by decide)) (fun _ => ?_)
  refine lv_aload_n hx hb dX6_add_7 rfl (lv_at hl 1 rfl) ?_
  refine va_get (ci := 6) (v := .int 13) (C := RX6) (T := TX6) (N := 12) hx hb hts inlX6 hown hK hP 0 rfl rfl 1 (by decide) (hts _ kw_167) (fun _ h9 => h9) rfl dX6_add_8 ?_
  refine lv_sipush (v := 1600) hx hb dX6_add_11 (by decide) ?_
  refine lv_icmp_ge (tgt := 46) hx hb dX6_add_14 (by decide) (fun h => absurd h (by decide)) (fun _ => ?_)
  refine lv_aload_n hx hb dX6_add_17 rfl (lv_at hl 1 rfl) ?_
  refine va_get (ci := 6) (v := .ref h1) (C := RX6) (T := TX6) (N := 12) hx hb hts inlX6 hown hK hP 0 rfl rfl 0 (by decide) (hts _ kw_48) (fun _ h9 => h9) rfl dX6_add_18 ?_
  refine lv_aload_n hx hb dX6_add_21 rfl (lv_at hl 1 rfl) ?_
  refine va_get (ci := 6) (v := .int 13) (C := RX6) (T := TX6) (N := 12) hx hb hts inlX6 hown hK hP 0 rfl rfl 1 (by decide) (hts _ kw_167) (fun _ h9 => h9) rfl dX6_add_22 ?_
  refine lv_iload_n hx hb dX6_add_25 rfl (lv_at hl 2 rfl) ?_
  refine lv_iload_n hx hb dX6_add_26 rfl (lv_at hl 0 rfl) ?_
  refine lv_ishr hx hb dX6_add_27 ?_
  refine lv_topi (fun y4 _ => ?_)
  refine lv_i2b hx hb dX6_add_28 rfl ?_
  refine lv_topi (fun y5 _ => ?_)
  refine va_bast (i := 13) (x := y5) hx hb hK hP hD hS 1 1 rfl rfl (iv_in (iv_c (x := (13 : Int32)) (k := 13) (by decide)) (by decide)) dX6_add_29 (fun H locs hP hD hS => ?_)
  obtain ⟨g6, hg6⟩ : ∃ gg : Nat → Int32, gg = upd g3 (13 : Int32).toNatClampNeg (vp_nar .byte y5) := ⟨_, rfl⟩
  rw [← hg6] at hP hD
  have hP : va_P D vwCl [(h0, .inr (6, [.ref h1, .int 13, z2, z3, z4, z5, z6, z7, z8, z9, z10, z11])), (h1, .inl (c0 1, 1600, .inl g6))] H := hP
  have hD : va_D A [(h0, .inr (6, [.ref h1, .int 13, z2, z3, z4, z5, z6, z7, z8, z9, z10, z11])), (h1, .inl (c0 1, 1600, .inl g6))] := hD
  refine lv_aload_n hx hb dX6_add_30 rfl (lv_at hl 1 rfl) ?_
  refine lv_dup hx hb dX6_add_31 rfl ?_
  refine va_get (ci := 6) (v := .int 13) (C := RX6) (T := TX6) (N := 12) hx hb hts inlX6 hown hK hP 0 rfl rfl 1 (by decide) (hts _ kw_167) (fun _ h9 => h9) rfl dX6_add_32 ?_
  refine lv_iconst (v := 1) hx hb dX6_add_35 (by decide) ?_
  refine lv_iadd hx hb dX6_add_36 ?_
  refine lv_topi (fun w9 e9 => ?_)
  obtain rfl : w9 = 14 := e9.trans (by decide)
  refine va_put (D := D) (ci := 6) (v := .int 14) (ty := .int) (C := RX6) (T := TX6) (N := 12) hx hb hts inlX6 tyX6 tyX6_ok nmX6 hown hK hP hD hS 0 rfl rfl 1 (by decide) (hts _ kw_167) (fun _ h9 => h9) rfl (by decide +kernel) rfl rfl (Nat.le_of_ble_eq_true rfl) dX6_add_37 (fun H locs hP hD hS => ?_)
  have hP : va_P D vwCl [(h0, .inr (6, [.ref h1, .int 14, z2, z3, z4, z5, z6, z7, z8, z9, z10, z11])), (h1, .inl (c0 1, 1600, .inl g6))] H := hP
  have hD : va_D A [(h0, .inr (6, [.ref h1, .int 14, z2, z3, z4, z5, z6, z7, z8, z9, z10, z11])), (h1, .inl (c0 1, 1600, .inl g6))] := hD
  refine lv_iinc (v := 8) (lv' := [(2, .int 8), (0, .ref h0), (1, .int x1)]) hx hb dX6_add_40 hl (k := 0) rfl (by decide) (by decide) rfl (fun ls hl => ?_)
  refine lv_goto (tgt := 3) hx hb dX6_add_43 (by decide) ?_
  refine lv_iload_n hx hb dX6_add_3 rfl (lv_at hl 0 rfl) ?_
  refine lv_if_lt (tgt := 46) hx hb dX6_add_4 (by decide) (fun h => absurd h (by decide)) (fun _ => ?_)
  refine lv_aload_n hx hb dX6_add_7 rfl (lv_at hl 1 rfl) ?_
  refine va_get (ci := 6) (v := .int 14) (C := RX6) (T := TX6) (N := 12) hx hb hts inlX6 hown hK hP 0 rfl rfl 1 (by decide) (hts _ kw_167) (fun _ h9 => h9) rfl dX6_add_8 ?_
  refine lv_sipush (v := 1600) hx hb dX6_add_11 (by decide) ?_
  refine lv_icmp_ge (tgt := 46) hx hb dX6_add_14 (by decide) (fun h => absurd h (by decide)) (fun _ => ?_)
  refine lv_aload_n hx hb dX6_add_17 rfl (lv_at hl 1 rfl) ?_
  refine va_get (ci := 6) (v := .ref h1) (C := RX6) (T := TX6) (N := 12) hx hb hts inlX6 hown hK hP 0 rfl rfl 0 (by decide) (hts _ kw_48) (fun _ h9 => h9) rfl dX6_add_18 ?_
  refine lv_aload_n hx hb dX6_add_21 rfl (lv_at hl 1 rfl) ?_
  refine va_get (ci := 6) (v := .int 14) (C := RX6) (T := TX6) (N := 12) hx hb hts inlX6 hown hK hP 0 rfl rfl 1 (by decide) (hts _ kw_167) (fun _ h9 => h9) rfl dX6_add_22 ?_
  refine lv_iload_n hx hb dX6_add_25 rfl (lv_at hl 2 rfl) ?_
  refine lv_iload_n hx hb dX6_add_26 rfl (lv_at hl 0 rfl) ?_
  refine lv_ishr hx hb dX6_add_27 ?_
  refine lv_topi (fun y7 _ => ?_)
  refine lv_i2b hx hb dX6_add_28 rfl ?_
  refine lv_topi (fun y8 _ => ?_)
  refine va_bast (i := 14) (x := y8) hx hb hK hP hD hS 1 1 rfl rfl (iv_in (iv_c (x := (14 : Int32)) (k := 14) (by decide)) (by decide)) dX6_add_29 (fun H locs hP hD hS => ?_)
  obtain ⟨g9, hg9⟩ : ∃ gg : Nat → Int32, gg = upd g6 (14 : Int32).toNatClampNeg (vp_nar .byte y8) := ⟨_, rfl⟩
  rw [← hg9] at hP hD
  have hP : va_P D vwCl [(h0, .inr (6, [.ref h1, .int 14, z2, z3, z4, z5, z6, z7, z8, z9, z10, z11])), (h1, .inl (c0 1, 1600, .inl g9))] H := hP
  have hD : va_D A [(h0, .inr (6, [.ref h1, .int 14, z2, z3, z4, z5, z6, z7, z8, z9, z10, z11])), (h1, .inl (c0 1, 1600, .inl g9))] := hD
  refine lv_aload_n hx hb dX6_add_30 rfl (lv_at hl 1 rfl) ?_
  refine lv_dup hx hb dX6_add_31 rfl ?_
  refine va_get (ci := 6) (v := .int 14) (C := RX6) (T := TX6) (N := 12) hx hb hts inlX6 hown hK hP 0 rfl rfl 1 (by decide) (hts _ kw_167) (fun _ h9 => h9) rfl dX6_add_32 ?_
  refine lv_iconst (v := 1) hx hb dX6_add_35 (by decide) ?_
  refine lv_iadd hx hb dX6_add_36 ?_
  refine lv_topi (fun w9 e9 => ?_)
  obtain rfl : w9 = 15 := e9.trans (by decide)
  refine va_put (D := D) (ci := 6) (v := .int 15) (ty := .int) (C := RX6) (T := TX6) (N := 12) hx hb hts inlX6 tyX6 tyX6_ok nmX6 hown hK hP hD hS 0 rfl rfl 1 (by decide) (hts _ kw_167) (fun _ h9 => h9) rfl (by decide +kernel) rfl rfl (Nat.le_of_ble_eq_true rfl) dX6_add_37 (fun H locs hP hD hS => ?_)
  have hP : va_P D vwCl [(h0, .inr (6, [.ref h1, .int 15, z2, z3, z4, z5, z6, z7, z8, z9, z10, z11])), (h1, .inl (c0 1, 1600, .inl g9))] H := hP
  have hD : va_D A [(h0, .inr (6, [.ref h1, .int 15, z2, z3, z4, z5, z6, z7, z8, z9, z10, z11])), (h1, .inl (c0 1, 1600, .inl g9))] := hD
  refine lv_iinc (v := 0) (lv' := [(2, .int 0), (0, .ref h0), (1, .int x1)]) hx hb dX6_add_40 hl (k := 0) rfl (by decide) (by decide) rfl (fun ls hl => ?_)
  refine lv_goto (tgt := 3) hx hb dX6_add_43 (by decide) ?_
  refine lv_iload_n hx hb dX6_add_3 rfl (lv_at hl 0 rfl) ?_
  refine lv_if_lt (tgt := 46) hx hb dX6_add_4 (by decide) (fun h => absurd h (by decide)) (fun _ => ?_)
  refine lv_aload_n hx hb dX6_add_7 rfl (lv_at hl 1 rfl) ?_
  refine va_get (ci := 6) (v := .int 15) (C := RX6) (T := TX6) (N := 12) hx hb hts inlX6 hown hK hP 0 rfl rfl 1 (by decide) (hts _ kw_167) (fun _ h9 => h9) rfl dX6_add_8 ?_
  refine lv_sipush (v := 1600) hx hb dX6_add_11 (by decide) ?_
  refine lv_icmp_ge (tgt := 46) hx hb dX6_add_14 (by decide) (fun h => absurd h (by decide)) (fun _ => ?_)
  refine lv_aload_n hx hb dX6_add_17 rfl (lv_at hl 1 rfl) ?_
  refine va_get (ci := 6) (v := .ref h1) (C := RX6) (T := TX6) (N := 12) hx hb hts inlX6 hown hK hP 0 rfl rfl 0 (by decide) (hts _ kw_48) (fun _ h9 => h9) rfl dX6_add_18 ?_
  refine lv_aload_n hx hb dX6_add_21 rfl (lv_at hl 1 rfl) ?_
  refine va_get (ci := 6) (v := .int 15) (C := RX6) (T := TX6) (N := 12) hx hb hts inlX6 hown hK hP 0 rfl rfl 1 (by decide) (hts _ kw_167) (fun _ h9 => h9) rfl dX6_add_22 ?_
  refine lv_iload_n hx hb dX6_add_25 rfl (lv_at hl 2 rfl) ?_
  refine lv_iload_n hx hb dX6_add_26 rfl (lv_at hl 0 rfl) ?_
  refine lv_ishr hx hb dX6_add_27 ?_
  refine lv_topi (fun y10 _ => ?_)
  refine lv_i2b hx hb dX6_add_28 rfl ?_
  refine lv_topi (fun y11 _ => ?_)
  refine va_bast (i := 15) (x := y11) hx hb hK hP hD hS 1 1 rfl rfl (iv_in (iv_c (x := (15 : Int32)) (k := 15) (by decide)) (by decide)) dX6_add_29 (fun H locs hP hD hS => ?_)
  obtain ⟨g12, hg12⟩ : ∃ gg : Nat → Int32, gg = upd g9 (15 : Int32).toNatClampNeg (vp_nar .byte y11) := ⟨_, rfl⟩
  rw [← hg12] at hP hD
  have hP : va_P D vwCl [(h0, .inr (6, [.ref h1, .int 15, z2, z3, z4, z5, z6, z7, z8, z9, z10, z11])), (h1, .inl (c0 1, 1600, .inl g12))] H := hP
  have hD : va_D A [(h0, .inr (6, [.ref h1, .int 15, z2, z3, z4, z5, z6, z7, z8, z9, z10, z11])), (h1, .inl (c0 1, 1600, .inl g12))] := hD
  refine lv_aload_n hx hb dX6_add_30 rfl (lv_at hl 1 rfl) ?_
  refine lv_dup hx hb dX6_add_31 rfl ?_
  refine va_get (ci := 6) (v := .int 15) (C := RX6) (T := TX6) (N := 12) hx hb hts inlX6 hown hK hP 0 rfl rfl 1 (by decide) (hts _ kw_167) (fun _ h9 => h9) rfl dX6_add_32 ?_
  refine lv_iconst (v := 1) hx hb dX6_add_35 (by decide) ?_
  refine lv_iadd hx hb dX6_add_36 ?_
  refine lv_topi (fun w9 e9 => ?_)
  obtain rfl : w9 = 16 := e9.trans (by decide)
  refine va_put (D := D) (ci := 6) (v := .int 16) (ty := .int) (C := RX6) (T := TX6) (N := 12) hx hb hts inlX6 tyX6 tyX6_ok nmX6 hown hK hP hD hS 0 rfl rfl 1 (by decide) (hts _ kw_167) (fun _ h9 => h9) rfl (by decide +kernel) rfl rfl (Nat.le_of_ble_eq_true rfl) dX6_add_37 (fun H locs hP hD hS => ?_)
  have hP : va_P D vwCl [(h0, .inr (6, [.ref h1, .int 16, z2, z3, z4, z5, z6, z7, z8, z9, z10, z11])), (h1, .inl (c0 1, 1600, .inl g12))] H := hP
  have hD : va_D A [(h0, .inr (6, [.ref h1, .int 16, z2, z3, z4, z5, z6, z7, z8, z9, z10, z11])), (h1, .inl (c0 1, 1600, .inl g12))] := hD
  refine lv_iinc (v := (-8)) (lv' := [(2, .int (-8)), (0, .ref h0), (1, .int x1)]) hx hb dX6_add_40 hl (k := 0) rfl (by decide) (by decide) rfl (fun ls hl => ?_)
  refine lv_goto (tgt := 3) hx hb dX6_add_43 (by decide) ?_
  refine lv_iload_n hx hb dX6_add_3 rfl (lv_at hl 0 rfl) ?_
  refine lv_if_lt (tgt := 46) hx hb dX6_add_4 (by decide) (fun _ => ?_) (fun h => absurd (by decide) h)
  exact W.vret hx hb hr (fun t ht hW => ⟨⟨rfl, g12, by rw [ht]; exact hP, hD⟩, hS.F ht⟩) hS.2.2 dX6_add_46 hlocks
set_option maxHeartbeats 4000000 in
set_option maxRecDepth 100000 in
theorem n_X6_add_16 (l : Launch) {D : va_G} {c0 : Nat → ClassId} {H : Heap} {h0 h1 : Nat} {z2 z3 z4 z5 z6 z7 z8 z9 z10 z11 : Value} {g0 : Nat → Int32} {x1 : Int32} (hP : va_P D vwCl [(h0, .inr (6, [.ref h1, .int 16, z2, z3, z4, z5, z6, z7, z8, z9, z10, z11])), (h1, .inl (c0 1, 1600, .inl g0))] H) (hD0 : va_D (fun _ => True) [(h0, .inr (6, [.ref h1, .int 16, z2, z3, z4, z5, z6, z7, z8, z9, z10, z11])), (h1, .inl (c0 1, 1600, .inl g0))]) : Met l yX6_add (wz yX6_add cX6_add 3 none) { frames := 1, cells := 0, slots := 0, locals := 12 } (NP D (tysOf c0) H [.ref h0, .int x1]) (NQ (va_A [(h0, .inr (6, [.ref h1, .int 16, z2, z3, z4, z5, z6, z7, z8, z9, z10, z11])), (h1, .inl (c0 1, 1600, .inl g0))] H.size) (fun H' => ∃ g12 : Nat → Int32, va_P D vwCl [(h0, .inr (6, [.ref h1, .int 20, z2, z3, z4, z5, z6, z7, z8, z9, z10, z11])), (h1, .inl (c0 1, 1600, .inl g12))] H' ∧ va_D (va_A [(h0, .inr (6, [.ref h1, .int 16, z2, z3, z4, z5, z6, z7, z8, z9, z10, z11])), (h1, .inl (c0 1, 1600, .inl g0))] H.size) [(h0, .inr (6, [.ref h1, .int 20, z2, z3, z4, z5, z6, z7, z8, z9, z10, z11])), (h1, .inl (c0 1, 1600, .inl g12))])) 0 0 (va_A [(h0, .inr (6, [.ref h1, .int 16, z2, z3, z4, z5, z6, z7, z8, z9, z10, z11])), (h1, .inl (c0 1, 1600, .inl g0))] H.size) := by
  refine Met.ofW (cc := cX6_add) (maxL := 3) (ret := none) (by decide) rfl ?_
  intro p e s m args below meth c s₁ B hml hv
  obtain ⟨rfl, rfl, hK, hN⟩ := hv
  have hx := B.exec
  have hb := B.bytes
  have hr := B.returns
  have hts : ∀ w ∈ wq, w.before _ s = true := fun w h => atoms_spec (ws := wz yX6_add cX6_add 3 none) B.pre w (List.mem_cons_of_mem _ h)
  have hown : s.vm.findClass RX6 = some m.cls := findClass_of_methodNamed B.named
  have hlocks := B.notSynchronized
  have hin : meth.name = "add" := (name_of_methodNamed B.named B.method).1
  obtain ⟨R, hR⟩ : ∃ R : Room, R = ({ frames := 1, cells := 0, slots := 0, locals := 12 } : Room) := ⟨_, rfl⟩
  rw [show (headSpec (wz yX6_add cX6_add 3 none) { frames := 1, cells := 0, slots := 0, locals := 12 }).room = R from hR.symm]
  have hD := hD0.self (sz := s.heap.size)
  generalize hAe : va_A [(h0, .inr (6, [.ref h1, .int 16, z2, z3, z4, z5, z6, z7, z8, z9, z10, z11])), (h1, .inl (c0 1, 1600, .inl g0))] s.heap.size = A at hD ⊢
  have hA : ∀ q : Nat, s.heap.size ≤ q → A q := fun q h => by rw [← hAe]; exact Or.inr h
  have hl := lv_entry [.ref h0, .int x1] (n := 3) (Nat.le_of_ble_eq_true rfl)
  rw [lg_entry_eq]
  generalize (lg_sl [.ref h0, .int x1] ++ List.replicate (3 - (lg_sl [.ref h0, .int x1]).length) Slot.unset).toArray = ls at hl ⊢
  have hl : lv_has ls 3 [(0, .ref h0), (1, .int x1)] := hl
  have hS : va_S A s.heap s.heap [] := va_S.rf
  suffices key : ∀ (H : Heap) (locs : List Loc), va_P D vwCl [(h0, .inr (6, [.ref h1, .int 16, z2, z3, z4, z5, z6, z7, z8, z9, z10, z11])), (h1, .inl (c0 1, 1600, .inl g0))] H → va_S A s.heap H locs → W p l e R s m ([.ref h0, .int x1] : List Value).toArray below meth c H locs 0 0 (MQ below (NQ A (fun H' => ∃ g12 : Nat → Int32, va_P D vwCl [(h0, .inr (6, [.ref h1, .int 20, z2, z3, z4, z5, z6, z7, z8, z9, z10, z11])), (h1, .inl (c0 1, 1600, .inl g12))] H' ∧ va_D A [(h0, .inr (6, [.ref h1, .int 20, z2, z3, z4, z5, z6, z7, z8, z9, z10, z11])), (h1, .inl (c0 1, 1600, .inl g12))])) ([.ref h0, .int x1] : List Value).toArray s 0 0 A) (F0 m 0 ls []) from key s.heap [] hP hS
  clear hP hS
  intro H locs hP hS
  refine lv_bipush (v := 24) hx hb dX6_add_0 (by decide) ?_
  refine lv_istore_n (lv' := [(2, .int 24), (0, .ref h0), (1, .int x1)]) hx hb dX6_add_2 rfl hl (by decide) rfl (fun ls hl => ?_)
  refine lv_iload_n hx hb dX6_add_3 rfl (lv_at hl 0 rfl) ?_
  refine lv_if_lt (tgt := 46) hx hb dX6_add_4 (by decide) (fun h => absurd h (by decide)) (fun _ => ?_)
  refine lv_aload_n hx hb dX6_add_7 rfl (lv_at hl 1 rfl) ?_
  refine va_get (ci := 6) (v := .int 16) (C := RX6) (T := TX6) (N := 12) hx hb hts inlX6 hown hK hP 0 rfl rfl 1 (by decide) (hts _ kw_167) (fun _ h9 => h9) rfl dX6_add_8 ?_
  refine lv_sipush (v := 1600) hx hb dX6_add_11 (by decide) ?_
  refine lv_icmp_ge (tgt := 46) hx hb dX6_add_14 (by decide) (fun h => absurd h (by decide)) (fun _ => ?_)
  refine lv_aload_n hx hb dX6_add_17 rfl (lv_at hl 1 rfl) ?_
  refine va_get (ci := 6) (v := .ref h1) (C := RX6) (T := TX6) (N := 12) hx hb hts inlX6 hown hK hP 0 rfl rfl 0 (by decide) (hts _ kw_48) (fun _ h9 => h9) rfl dX6_add_18 ?_
  refine lv_aload_n hx hb dX6_add_21 rfl (lv_at hl 1 rfl) ?_
  refine va_get (ci := 6) (v := .int 16) (C := RX6) (T := TX6) (N := 12) hx hb hts inlX6 hown hK hP 0 rfl rfl 1 (by decide) (hts _ kw_167) (fun _ h9 => h9) rfl dX6_add_22 ?_
  refine lv_iload_n hx hb dX6_add_25 rfl (lv_at hl 2 rfl) ?_
  refine lv_iload_n hx hb dX6_add_26 rfl (lv_at hl 0 rfl) ?_
  refine lv_ishr hx hb dX6_add_27 ?_
  refine lv_topi (fun y1 _ => ?_)
  refine lv_i2b hx hb dX6_add_28 rfl ?_
  refine lv_topi (fun y2 _ => ?_)
  refine va_bast (i := 16) (x := y2) hx hb hK hP hD hS 1 1 rfl rfl (iv_in (iv_c (x := (16 : Int32)) (k := 16) (by decide)) (by decide)) dX6_add_29 (fun H locs hP hD hS => ?_)
  obtain ⟨g3, hg3⟩ : ∃ gg : Nat → Int32, gg = upd g0 (16 : Int32).toNatClampNeg (vp_nar .byte y2) := ⟨_, rfl⟩
  rw [← hg3] at hP hD
  have hP : va_P D vwCl [(h0, .inr (6, [.ref h1, .int 16, z2, z3, z4, z5, z6, z7, z8, z9, z10, z11])), (h1, .inl (c0 1, 1600, .inl g3))] H := hP
  have hD : va_D A [(h0, .inr (6, [.ref h1, .int 16, z2, z3, z4, z5, z6, z7, z8, z9, z10, z11])), (h1, .inl (c0 1, 1600, .inl g3))] := hD
  refine lv_aload_n hx hb dX6_add_30 rfl (lv_at hl 1 rfl) ?_
  refine lv_dup hx hb dX6_add_31 rfl ?_
  refine va_get (ci := 6) (v := .int 16) (C := RX6) (T := TX6) (N := 12) hx hb hts inlX6 hown hK hP 0 rfl rfl 1 (by decide) (hts _ kw_167) (fun _ h9 => h9) rfl dX6_add_32 ?_
  refine lv_iconst (v := 1) hx hb dX6_add_35 (by decide) ?_
  refine lv_iadd hx hb dX6_add_36 ?_
  refine lv_topi (fun w9 e9 => ?_)
  obtain rfl : w9 = 17 := e9.trans (by decide)
  refine va_put (D := D) (ci := 6) (v := .int 17) (ty := .int) (C := RX6) (T := TX6) (N := 12) hx hb hts inlX6 tyX6 tyX6_ok nmX6 hown hK hP hD hS 0 rfl rfl 1 (by decide) (hts _ kw_167) (fun _ h9 => h9) rfl (by decide +kernel) rfl rfl (Nat.le_of_ble_eq_true rfl) dX6_add_37 (fun H locs hP hD hS => ?_)
  have hP : va_P D vwCl [(h0, .inr (6, [.ref h1, .int 17, z2, z3, z4, z5, z6, z7, z8, z9, z10, z11])), (h1, .inl (c0 1, 1600, .inl g3))] H := hP
  have hD : va_D A [(h0, .inr (6, [.ref h1, .int 17, z2, z3, z4, z5, z6, z7, z8, z9, z10, z11])), (h1, .inl (c0 1, 1600, .inl g3))] := hD
  refine lv_iinc (v := 16) (lv' := [(2, .int 16), (0, .ref h0), (1, .int x1)]) hx hb dX6_add_40 hl (k := 0) rfl (by decide) (by decide) rfl (fun ls hl => ?_)
  refine lv_goto (tgt := 3) hx hb dX6_add_43 (by decide) ?_
  refine lv_iload_n hx hb dX6_add_3 rfl (lv_at hl 0 rfl) ?_
  refine lv_if_lt (tgt := 46) hx hb dX6_add_4 (by decide) (fun h => absurd h (by decide)) (fun _ => ?_)
  refine lv_aload_n hx hb dX6_add_7 rfl (lv_at hl 1 rfl) ?_
  refine va_get (ci := 6) (v := .int 17) (C := RX6) (T := TX6) (N := 12) hx hb hts inlX6 hown hK hP 0 rfl rfl 1 (by decide) (hts _ kw_167) (fun _ h9 => h9) rfl dX6_add_8 ?_
  refine lv_sipush (v := 1600) hx hb dX6_add_11 (by decide) ?_
  refine lv_icmp_ge (tgt := 46) hx hb dX6_add_14 (by decide) (fun h => absurd h (by decide)) (fun _ => ?_)
  refine lv_aload_n hx hb dX6_add_17 rfl (lv_at hl 1 rfl) ?_
  refine va_get (ci := 6) (v := .ref h1) (C := RX6) (T := TX6) (N := 12) hx hb hts inlX6 hown hK hP 0 rfl rfl 0 (by decide) (hts _ kw_48) (fun _ h9 => h9) rfl dX6_add_18 ?_
  refine lv_aload_n hx hb dX6_add_21 rfl (lv_at hl 1 rfl) ?_
  refine va_get (ci := 6) (v := .int 17) (C := RX6) (T := TX6) (N := 12) hx hb hts inlX6 hown hK hP 0 rfl rfl 1 (by decide) (hts _ kw_167) (fun _ h9 => h9) rfl dX6_add_22 ?_
  refine lv_iload_n hx hb dX6_add_25 rfl (lv_at hl 2 rfl) ?_
  refine lv_iload_n hx hb dX6_add_26 rfl (lv_at hl 0 rfl) ?_
  refine lv_ishr hx hb dX6_add_27 ?_
  refine lv_topi (fun y4 _ => ?_)
  refine lv_i2b hx hb dX6_add_28 rfl ?_
  refine lv_topi (fun y5 _ => ?_)
  refine va_bast (i := 17) (x := y5) hx hb hK hP hD hS 1 1 rfl rfl (iv_in (iv_c (x := (17 : Int32)) (k := 17) (by decide)) (by decide)) dX6_add_29 (fun H locs hP hD hS => ?_)
  obtain ⟨g6, hg6⟩ : ∃ gg : Nat → Int32, gg = upd g3 (17 : Int32).toNatClampNeg (vp_nar .byte y5) := ⟨_, rfl⟩
  rw [← hg6] at hP hD
  have hP : va_P D vwCl [(h0, .inr (6, [.ref h1, .int 17, z2, z3, z4, z5, z6, z7, z8, z9, z10, z11])), (h1, .inl (c0 1, 1600, .inl g6))] H := hP
  have hD : va_D A [(h0, .inr (6, [.ref h1, .int 17, z2, z3, z4, z5, z6, z7, z8, z9, z10, z11])), (h1, .inl (c0 1, 1600, .inl g6))] := hD
  refine lv_aload_n hx hb dX6_add_30 rfl (lv_at hl 1 rfl) ?_
  refine lv_dup hx hb dX6_add_31 rfl ?_
  refine va_get (ci := 6) (v := .int 17) (C := RX6) (T := TX6) (N := 12) hx hb hts inlX6 hown hK hP 0 rfl rfl 1 (by decide) (hts _ kw_167) (fun _ h9 => h9) rfl dX6_add_32 ?_
  refine lv_iconst (v := 1) hx hb dX6_add_35 (by decide) ?_
  refine lv_iadd hx hb dX6_add_36 ?_
  refine lv_topi (fun w9 e9 => ?_)
  obtain rfl : w9 = 18 := e9.trans (by decide)
  refine va_put (D := D) (ci := 6) (v := .int 18) (ty := .int) (C := RX6) (T := TX6) (N := 12) hx hb hts inlX6 tyX6 tyX6_ok nmX6 hown hK hP hD hS 0 rfl rfl 1 (by decide) (hts _ kw_167) (fun _ h9 => h9) rfl (by decide +kernel) rfl rfl (Nat.le_of_ble_eq_true rfl) dX6_add_37 (fun H locs hP hD hS => ?_)
  have hP : va_P D vwCl [(h0, .inr (6, [.ref h1, .int 18, z2, z3, z4, z5, z6, z7, z8, z9, z10, z11])), (h1, .inl (c0 1, 1600, .inl g6))] H := hP
  have hD : va_D A [(h0, .inr (6, [.ref h1, .int 18, z2, z3, z4, z5, z6, z7, z8, z9, z10, z11])), (h1, .inl (c0 1, 1600, .inl g6))] := hD
  refine lv_iinc (v := 8) (lv' := [(2, .int 8), (0, .ref h0), (1, .int x1)]) hx hb dX6_add_40 hl (k := 0) rfl (by decide) (by decide) rfl (fun ls hl => ?_)
  refine lv_goto (tgt := 3) hx hb dX6_add_43 (by decide) ?_
  refine lv_iload_n hx hb dX6_add_3 rfl (lv_at hl 0 rfl) ?_
  refine lv_if_lt (tgt := 46) hx hb dX6_add_4 (by decide) (fun h => absurd h (by decide)) (fun _ => ?_)
  refine lv_aload_n hx hb dX6_add_7 rfl (lv_at hl 1 rfl) ?_
  refine va_get (ci := 6) (v := .int 18) (C := RX6) (T := TX6) (N := 12) hx hb hts inlX6 hown hK hP 0 rfl rfl 1 (by decide) (hts _ kw_167) (fun _ h9 => h9) rfl dX6_add_8 ?_
  refine lv_sipush (v := 1600) hx hb dX6_add_11 (by decide) ?_
  refine lv_icmp_ge (tgt := 46) hx hb dX6_add_14 (by decide) (fun h => absurd h (by decide)) (fun _ => ?_)
  refine lv_aload_n hx hb dX6_add_17 rfl (lv_at hl 1 rfl) ?_
  refine va_get (ci := 6) (v := .ref h1) (C := RX6) (T := TX6) (N := 12) hx hb hts inlX6 hown hK hP 0 rfl rfl 0 (by decide) (hts _ kw_48) (fun _ h9 => h9) rfl dX6_add_18 ?_
  refine lv_aload_n hx hb dX6_add_21 rfl (lv_at hl 1 rfl) ?_
  refine va_get (ci := 6) (v := .int 18) (C := RX6) (T := TX6) (N := 12) hx hb hts inlX6 hown hK hP 0 rfl rfl 1 (by decide) (hts _ kw_167) (fun _ h9 => h9) rfl dX6_add_22 ?_
  refine lv_iload_n hx hb dX6_add_25 rfl (lv_at hl 2 rfl) ?_
  refine lv_iload_n hx hb dX6_add_26 rfl (lv_at hl 0 rfl) ?_
  refine lv_ishr hx hb dX6_add_27 ?_
  refine lv_topi (fun y7 _ => ?_)
  refine lv_i2b hx hb dX6_add_28 rfl ?_
  refine lv_topi (fun y8 _ => ?_)
  refine va_bast (i := 18) (x := y8) hx hb hK hP hD hS 1 1 rfl rfl (iv_in (iv_c (x := (18 : Int32)) (k := 18) (by decide)) (by decide)) dX6_add_29 (fun H locs hP hD hS => ?_)
  obtain ⟨g9, hg9⟩ : ∃ gg : Nat → Int32, gg = upd g6 (18 : Int32).toNatClampNeg (vp_nar .byte y8) := ⟨_, rfl⟩
  rw [← hg9] at hP hD
  have hP : va_P D vwCl [(h0, .inr (6, [.ref h1, .int 18, z2, z3, z4, z5, z6, z7, z8, z9, z10, z11])), (h1, .inl (c0 1, 1600, .inl g9))] H := hP
  have hD : va_D A [(h0, .inr (6, [.ref h1, .int 18, z2, z3, z4, z5, z6, z7, z8, z9, z10, z11])), (h1, .inl (c0 1, 1600, .inl g9))] := hD
  refine lv_aload_n hx hb dX6_add_30 rfl (lv_at hl 1 rfl) ?_
  refine lv_dup hx hb dX6_add_31 rfl ?_
  refine va_get (ci := 6) (v := .int 18) (C := RX6) (T := TX6) (N := 12) hx hb hts inlX6 hown hK hP 0 rfl rfl 1 (by decide) (hts _ kw_167) (fun _ h9 => h9) rfl dX6_add_32 ?_
  refine lv_iconst (v := 1) hx hb dX6_add_35 (by decide) ?_
  refine lv_iadd hx hb dX6_add_36 ?_
  refine lv_topi (fun w9 e9 => ?_)
  obtain rfl : w9 = 19 := e9.trans (by decide)
  refine va_put (D := D) (ci := 6) (v := .int 19) (ty := .int) (C := RX6) (T := TX6) (N := 12) hx hb hts inlX6 tyX6 tyX6_ok nmX6 hown hK hP hD hS 0 rfl rfl 1 (by decide) (hts _ kw_167) (fun _ h9 => h9) rfl (by decide +kernel) rfl rfl (Nat.le_of_ble_eq_true rfl) dX6_add_37 (fun H locs hP hD hS => ?_)
  have hP : va_P D vwCl [(h0, .inr (6, [.ref h1, .int 19, z2, z3, z4, z5, z6, z7, z8, z9, z10, z11])), (h1, .inl (c0 1, 1600, .inl g9))] H := hP
  have hD : va_D A [(h0, .inr (6, [.ref h1, .int 19, z2, z3, z4, z5, z6, z7, z8, z9, z10, z11])), (h1, .inl (c0 1, 1600, .inl g9))] := hD
  refine lv_iinc (v := 0) (lv' := [(2, .int 0), (0, .ref h0), (1, .int x1)]) hx hb dX6_add_40 hl (k := 0) rfl (by decide) (by decide) rfl (fun ls hl => ?_)
  refine lv_goto (tgt := 3) hx hb dX6_add_43 (by decide) ?_
  refine lv_iload_n hx hb dX6_add_3 rfl (lv_at hl 0 rfl) ?_
  refine lv_if_lt (tgt := 46) hx hb dX6_add_4 (by decide) (fun h => absurd h (by decide)) (fun _ => ?_)
  refine lv_aload_n hx hb dX6_add_7 rfl (lv_at hl 1 rfl) ?_
  refine va_get (ci := 6) (v := .int 19) (C := RX6) (T := TX6) (N := 12) hx hb hts inlX6 hown hK hP 0 rfl rfl 1 (by decide) (hts _ kw_167) (fun _ h9 => h9) rfl dX6_add_8 ?_
  refine lv_sipush (v := 1600) hx hb dX6_add_11 (by decide) ?_
  refine lv_icmp_ge (tgt := 46) hx hb dX6_add_14 (by decide) (fun h => absurd h (by decide)) (fun _ => ?_)
  refine lv_aload_n hx hb dX6_add_17 rfl (lv_at hl 1 rfl) ?_
  refine va_get (ci := 6) (v := .ref h1) (C := RX6) (T := TX6) (N := 12) hx hb hts inlX6 hown hK hP 0 rfl rfl 0 (by decide) (hts _ kw_48) (fun _ h9 => h9) rfl dX6_add_18 ?_
  refine lv_aload_n hx hb dX6_add_21 rfl (lv_at hl 1 rfl) ?_
  refine va_get (ci := 6) (v := .int 19) (C := RX6) (T := TX6) (N := 12) hx hb hts inlX6 hown hK hP 0 rfl rfl 1 (by decide) (hts _ kw_167) (fun _ h9 => h9) rfl dX6_add_22 ?_
  refine lv_iload_n hx hb dX6_add_25 rfl (lv_at hl 2 rfl) ?_
  refine lv_iload_n hx hb dX6_add_26 rfl (lv_at hl 0 rfl) ?_
  refine lv_ishr hx hb dX6_add_27 ?_
  refine lv_topi (fun y10 _ => ?_)
  refine lv_i2b hx hb dX6_add_28 rfl ?_
  refine lv_topi (fun y11 _ => ?_)
  refine va_bast (i := 19) (x := y11) hx hb hK hP hD hS 1 1 rfl rfl (iv_in (iv_c (x := (19 : Int32)) (k := 19) (by decide)) (by decide)) dX6_add_29 (fun H locs hP hD hS => ?_)
  obtain ⟨g12, hg12⟩ : ∃ gg : Nat → Int32, gg = upd g9 (19 : Int32).toNatClampNeg (vp_nar .byte y11) := ⟨_, rfl⟩
  rw [← hg12] at hP hD
  have hP : va_P D vwCl [(h0, .inr (6, [.ref h1, .int 19, z2, z3, z4, z5, z6, z7, z8, z9, z10, z11])), (h1, .inl (c0 1, 1600, .inl g12))] H := hP
  have hD : va_D A [(h0, .inr (6, [.ref h1, .int 19, z2, z3, z4, z5, z6, z7, z8, z9, z10, z11])), (h1, .inl (c0 1, 1600, .inl g12))] := hD
  refine lv_aload_n hx hb dX6_add_30 rfl (lv_at hl 1 rfl) ?_
  refine lv_dup hx hb dX6_add_31 rfl ?_
  refine va_get (ci := 6) (v := .int 19) (C := RX6) (T := TX6) (N := 12) hx hb hts inlX6 hown hK hP 0 rfl rfl 1 (by decide) (hts _ kw_167) (fun _ h9 => h9) rfl dX6_add_32 ?_
  refine lv_iconst (v := 1) hx hb dX6_add_35 (by decide) ?_
  refine lv_iadd hx hb dX6_add_36 ?_
  refine lv_topi (fun w9 e9 => ?_)
  obtain rfl : w9 = 20 := e9.trans (by decide)
  refine va_put (D := D) (ci := 6) (v := .int 20) (ty := .int) (C := RX6) (T := TX6) (N := 12) hx hb hts inlX6 tyX6 tyX6_ok nmX6 hown hK hP hD hS 0 rfl rfl 1 (by decide) (hts _ kw_167) (fun _ h9 => h9) rfl (by decide +kernel) rfl rfl (Nat.le_of_ble_eq_true rfl) dX6_add_37 (fun H locs hP hD hS => ?_)
  have hP : va_P D vwCl [(h0, .inr (6, [.ref h1, .int 20, z2, z3, z4, z5, z6, z7, z8, z9, z10, z11])), (h1, .inl (c0 1, 1600, .inl g12))] H := hP
  have hD : va_D A [(h0, .inr (6, [.ref h1, .int 20, z2, z3, z4, z5, z6, z7, z8, z9, z10, z11])), (h1, .inl (c0 1, 1600, .inl g12))] := hD
  refine lv_iinc (v := (-8)) (lv' := [(2, .int (-8)), (0, .ref h0), (1, .int x1)]) hx hb dX6_add_40 hl (k := 0) rfl (by decide) (by decide) rfl (fun ls hl => ?_)
  refine lv_goto (tgt := 3) hx hb dX6_add_43 (by decide) ?_
  refine lv_iload_n hx hb dX6_add_3 rfl (lv_at hl 0 rfl) ?_
  refine lv_if_lt (tgt := 46) hx hb dX6_add_4 (by decide) (fun _ => ?_) (fun h => absurd (by decide) h)
  exact W.vret hx hb hr (fun t ht hW => ⟨⟨rfl, g12, by rw [ht]; exact hP, hD⟩, hS.F ht⟩) hS.2.2 dX6_add_46 hlocks
set_option maxHeartbeats 4000000 in
set_option maxRecDepth 100000 in
theorem n_X9_feed (l : Launch) {D : va_G} {c0 : Nat → ClassId} {H : Heap} {h0 h1 h2 : Nat} {z1 z2 z3 z4 z5 z6 z7 z8 z9 z10 : Value} {zz2 zz3 zz4 zz5 zz6 zz7 zz8 zz9 zz10 zz11 : Value} {g0 : Nat → Int32} {x1 x2 x3 x4 x5 : Int32} (hP : va_P D vwCl [(h0, .inr (9, [.ref h1, z1, z2, z3, z4, z5, z6, z7, z8, z9, z10])), (h1, .inr (6, [.ref h2, .int 0, zz2, zz3, zz4, zz5, zz6, zz7, zz8, zz9, zz10, zz11])), (h2, .inl (c0 1, 1600, .inl g0))] H) (hD0 : va_D (fun _ => True) [(h0, .inr (9, [.ref h1, z1, z2, z3, z4, z5, z6, z7, z8, z9, z10])), (h1, .inr (6, [.ref h2, .int 0, zz2, zz3, zz4, zz5, zz6, zz7, zz8, zz9, zz10, zz11])), (h2, .inl (c0 1, 1600, .inl g0))]) : Met l yX9_feed (wz yX9_feed cX9_feed 6 (some .int)) { frames := 2, cells := 0, slots := 0, locals := 34 } (NP D (tysOf c0) H [.ref h0, .int x1, .int x2, .int x3, .int x4, .int x5]) (NQi (va_A [(h0, .inr (9, [.ref h1, z1, z2, z3, z4, z5, z6, z7, z8, z9, z10])), (h1, .inr (6, [.ref h2, .int 0, zz2, zz3, zz4, zz5, zz6, zz7, zz8, zz9, zz10, zz11])), (h2, .inl (c0 1, 1600, .inl g0))] H.size) (fun x => x = 20)) 0 0 (va_A [(h0, .inr (9, [.ref h1, z1, z2, z3, z4, z5, z6, z7, z8, z9, z10])), (h1, .inr (6, [.ref h2, .int 0, zz2, zz3, zz4, zz5, zz6, zz7, zz8, zz9, zz10, zz11])), (h2, .inl (c0 1, 1600, .inl g0))] H.size) := by
  refine Met.ofW (cc := cX9_feed) (maxL := 6) (ret := (some .int)) (by decide) rfl ?_
  intro p e s m args below meth c s₁ B hml hv
  obtain ⟨rfl, rfl, hK, hN⟩ := hv
  have hx := B.exec
  have hb := B.bytes
  have hr := B.returns
  have hts : ∀ w ∈ wq, w.before _ s = true := fun w h => atoms_spec (ws := wz yX9_feed cX9_feed 6 (some .int)) B.pre w (List.mem_cons_of_mem _ h)
  have hown : s.vm.findClass RX9 = some m.cls := findClass_of_methodNamed B.named
  have hlocks := B.notSynchronized
  have hin : meth.name = "feed" := (name_of_methodNamed B.named B.method).1
  obtain ⟨R, hR⟩ : ∃ R : Room, R = ({ frames := 2, cells := 0, slots := 0, locals := 34 } : Room) := ⟨_, rfl⟩
  rw [show (headSpec (wz yX9_feed cX9_feed 6 (some .int)) { frames := 2, cells := 0, slots := 0, locals := 34 }).room = R from hR.symm]
  have hD := hD0.self (sz := s.heap.size)
  generalize hAe : va_A [(h0, .inr (9, [.ref h1, z1, z2, z3, z4, z5, z6, z7, z8, z9, z10])), (h1, .inr (6, [.ref h2, .int 0, zz2, zz3, zz4, zz5, zz6, zz7, zz8, zz9, zz10, zz11])), (h2, .inl (c0 1, 1600, .inl g0))] s.heap.size = A at hD ⊢
  have hA : ∀ q : Nat, s.heap.size ≤ q → A q := fun q h => by rw [← hAe]; exact Or.inr h
  have hl := lv_entry [.ref h0, .int x1, .int x2, .int x3, .int x4, .int x5] (n := 6) (Nat.le_of_ble_eq_true rfl)
  rw [lg_entry_eq]
  generalize (lg_sl [.ref h0, .int x1, .int x2, .int x3, .int x4, .int x5] ++ List.replicate (6 - (lg_sl [.ref h0, .int x1, .int x2, .int x3, .int x4, .int x5]).length) Slot.unset).toArray = ls at hl ⊢
  have hl : lv_has ls 6 [(0, .ref h0), (1, .int x1), (2, .int x2), (3, .int x3), (4, .int x4), (5, .int x5)] := hl
  have hS : va_S A s.heap s.heap [] := va_S.rf
  suffices key : ∀ (H : Heap) (locs : List Loc), va_P D vwCl [(h0, .inr (9, [.ref h1, z1, z2, z3, z4, z5, z6, z7, z8, z9, z10])), (h1, .inr (6, [.ref h2, .int 0, zz2, zz3, zz4, zz5, zz6, zz7, zz8, zz9, zz10, zz11])), (h2, .inl (c0 1, 1600, .inl g0))] H → va_S A s.heap H locs → W p l e R s m ([.ref h0, .int x1, .int x2, .int x3, .int x4, .int x5] : List Value).toArray below meth c H locs 0 0 (MQ below (NQi A (fun x => x = 20)) ([.ref h0, .int x1, .int x2, .int x3, .int x4, .int x5] : List Value).toArray s 0 0 A) (F0 m 0 ls []) from key s.heap [] hP hS
  clear hP hS
  intro H locs hP hS
  refine lv_aload_n hx hb dX9_feed_0 rfl (lv_at hl 0 rfl) ?_
  refine va_get (ci := 9) (v := .ref h1) (C := RX9) (T := TX9) (N := 11) hx hb hts inlX9 hown hK hP 0 rfl rfl 0 (by decide) (hts _ kw_16) (fun _ h9 => h9) rfl dX9_feed_1 ?_
  refine va_get (ci := 6) (v := .int 0) (C := RX6) (T := TX6) (N := 12) hx hb hts inlX6 hown hK hP 1 rfl rfl 1 (by decide) (hts _ kw_162) (fun _ h9 => h9) rfl dX9_feed_4 ?_
  refine lv_bipush (v := 20) hx hb dX9_feed_7 (by decide) ?_
  refine lv_iadd hx hb dX9_feed_9 ?_
  refine lv_topi (fun w9 e9 => ?_)
  obtain rfl : w9 = 20 := e9.trans (by decide)
  refine lv_sipush (v := 1600) hx hb dX9_feed_10 (by decide) ?_
  refine lv_icmp_le (tgt := 18) hx hb dX9_feed_13 (by decide) (fun _ => ?_) (fun h => absurd (by decide) h)
  refine lv_aload_n hx hb dX9_feed_18 rfl (lv_at hl 0 rfl) ?_
  refine va_get (ci := 9) (v := .ref h1) (C := RX9) (T := TX9) (N := 11) hx hb hts inlX9 hown hK hP 0 rfl rfl 0 (by decide) (hts _ kw_16) (fun _ h9 => h9) rfl dX9_feed_19 ?_
  refine lv_iload_n hx hb dX9_feed_22 rfl (lv_at hl 1 rfl) ?_
  have hFc := va_free (wc := [(h1, .inr (6, [.ref h2, .int 0, zz2, zz3, zz4, zz5, zz6, zz7, zz8, zz9, zz10, zz11])), (h2, .inl (c0 1, 1600, .inl g0))]) hD hS hA [1, 2] rfl
  refine nq_call (va_runV (As := [.int x1]) (rest := []) ⟨hx, hb, hml, hown, hts⟩ (n_X6_add_0 l (hP.sub (ws' := [(h1, .inr (6, [.ref h2, .int 0, zz2, zz3, zz4, zz5, zz6, zz7, zz8, zz9, zz10, zz11])), (h2, .inl (c0 1, 1600, .inl g0))]) [1, 2] rfl) ((hD.sub (ws' := [(h1, .inr (6, [.ref h2, .int 0, zz2, zz3, zz4, zz5, zz6, zz7, zz8, zz9, zz10, zz11])), (h2, .inl (c0 1, 1600, .inl g0))]) [1, 2] (by decide) rfl).weaken (fun _ _ _ _ => trivial)) (x1 := x1)) (cwV 1 hts (good_V kw_163 kw_164 kw_165 kw_15 kw_166) rfl rfl rfl (by decide +kernel) ⟨by rw [hR]; decide, by rw [hR]; decide⟩) (np_preV hK hN (hP.sub (ws' := [(h1, .inr (6, [.ref h2, .int 0, zz2, zz3, zz4, zz5, zz6, zz7, zz8, zz9, zz10, zz11])), (h2, .inl (c0 1, 1600, .inl g0))]) [1, 2] rfl) rfl (q0 := 0) rfl) rfl rfl hl.1 rfl (lv_room (Nat.le_of_ble_eq_true rfl)) dX9_feed_23 ⟨by rw [hR]; decide, by rw [hR]; decide⟩) hS hFc (fun H1 locs hB hS hk1 => ?_)
  obtain ⟨g12_23_0, hP1, hD1⟩ := hB
  obtain ⟨hP, hD⟩ := va_join (wr := [(h0, .inr (9, [.ref h1, z1, z2, z3, z4, z5, z6, z7, z8, z9, z10]))]) (w1 := [(h1, .inr (6, [.ref h2, .int 4, zz2, zz3, zz4, zz5, zz6, zz7, zz8, zz9, zz10, zz11])), (h2, .inl (c0 1, 1600, .inl g12_23_0))]) hP hD [1, 2] [0] rfl rfl (by decide) (by decide) hk1 hFc hP1 hD1
  generalize H1 = H at hP hS ⊢
  have hP : va_P D vwCl [(h0, .inr (9, [.ref h1, z1, z2, z3, z4, z5, z6, z7, z8, z9, z10])), (h1, .inr (6, [.ref h2, .int 4, zz2, zz3, zz4, zz5, zz6, zz7, zz8, zz9, zz10, zz11])), (h2, .inl (c0 1, 1600, .inl g12_23_0))] H := hP
  have hD : va_D A [(h0, .inr (9, [.ref h1, z1, z2, z3, z4, z5, z6, z7, z8, z9, z10])), (h1, .inr (6, [.ref h2, .int 4, zz2, zz3, zz4, zz5, zz6, zz7, zz8, zz9, zz10, zz11])), (h2, .inl (c0 1, 1600, .inl g12_23_0))] := hD
  refine lv_aload_n hx hb dX9_feed_26 rfl (lv_at hl 0 rfl) ?_
  refine va_get (ci := 9) (v := .ref h1) (C := RX9) (T := TX9) (N := 11) hx hb hts inlX9 hown hK hP 0 rfl rfl 0 (by decide) (hts _ kw_16) (fun _ h9 => h9) rfl dX9_feed_27 ?_
  refine lv_iload_n hx hb dX9_feed_30 rfl (lv_at hl 2 rfl) ?_
  have hFc := va_free (wc := [(h1, .inr (6, [.ref h2, .int 4, zz2, zz3, zz4, zz5, zz6, zz7, zz8, zz9, zz10, zz11])), (h2, .inl (c0 1, 1600, .inl g12_23_0))]) hD hS hA [1, 2] rfl
  refine nq_call (va_runV (As := [.int x2]) (rest := []) ⟨hx, hb, hml, hown, hts⟩ (n_X6_add_4 l (hP.sub (ws' := [(h1, .inr (6, [.ref h2, .int 4, zz2, zz3, zz4, zz5, zz6, zz7, zz8, zz9, zz10, zz11])), (h2, .inl (c0 1, 1600, .inl g12_23_0))]) [1, 2] rfl) ((hD.sub (ws' := [(h1, .inr (6, [.ref h2, .int 4, zz2, zz3, zz4, zz5, zz6, zz7, zz8, zz9, zz10, zz11])), (h2, .inl (c0 1, 1600, .inl g12_23_0))]) [1, 2] (by decide) rfl).weaken (fun _ _ _ _ => trivial)) (x1 := x2)) (cwV 1 hts (good_V kw_163 kw_164 kw_165 kw_15 kw_166) rfl rfl rfl (by decide +kernel) ⟨by rw [hR]; decide, by rw [hR]; decide⟩) (np_preV hK hN (hP.sub (ws' := [(h1, .inr (6, [.ref h2, .int 4, zz2, zz3, zz4, zz5, zz6, zz7, zz8, zz9, zz10, zz11])), (h2, .inl (c0 1, 1600, .inl g12_23_0))]) [1, 2] rfl) rfl (q0 := 0) rfl) rfl rfl hl.1 rfl (lv_room (Nat.le_of_ble_eq_true rfl)) dX9_feed_31 ⟨by rw [hR]; decide, by rw [hR]; decide⟩) hS hFc (fun H1 locs hB hS hk1 => ?_)
  obtain ⟨g12_31_1, hP1, hD1⟩ := hB
  obtain ⟨hP, hD⟩ := va_join (wr := [(h0, .inr (9, [.ref h1, z1, z2, z3, z4, z5, z6, z7, z8, z9, z10]))]) (w1 := [(h1, .inr (6, [.ref h2, .int 8, zz2, zz3, zz4, zz5, zz6, zz7, zz8, zz9, zz10, zz11])), (h2, .inl (c0 1, 1600, .inl g12_31_1))]) hP hD [1, 2] [0] rfl rfl (by decide) (by decide) hk1 hFc hP1 hD1
  generalize H1 = H at hP hS ⊢
  have hP : va_P D vwCl [(h0, .inr (9, [.ref h1, z1, z2, z3, z4, z5, z6, z7, z8, z9, z10])), (h1, .inr (6, [.ref h2, .int 8, zz2, zz3, zz4, zz5, zz6, zz7, zz8, zz9, zz10, zz11])), (h2, .inl (c0 1, 1600, .inl g12_31_1))] H := hP
  have hD : va_D A [(h0, .inr (9, [.ref h1, z1, z2, z3, z4, z5, z6, z7, z8, z9, z10])), (h1, .inr (6, [.ref h2, .int 8, zz2, zz3, zz4, zz5, zz6, zz7, zz8, zz9, zz10, zz11])), (h2, .inl (c0 1, 1600, .inl g12_31_1))] := hD
  refine lv_aload_n hx hb dX9_feed_34 rfl (lv_at hl 0 rfl) ?_
  refine va_get (ci := 9) (v := .ref h1) (C := RX9) (T := TX9) (N := 11) hx hb hts inlX9 hown hK hP 0 rfl rfl 0 (by decide) (hts _ kw_16) (fun _ h9 => h9) rfl dX9_feed_35 ?_
  refine lv_iload_n hx hb dX9_feed_38 rfl (lv_at hl 3 rfl) ?_
  have hFc := va_free (wc := [(h1, .inr (6, [.ref h2, .int 8, zz2, zz3, zz4, zz5, zz6, zz7, zz8, zz9, zz10, zz11])), (h2, .inl (c0 1, 1600, .inl g12_31_1))]) hD hS hA [1, 2] rfl
  refine nq_call (va_runV (As := [.int x3]) (rest := []) ⟨hx, hb, hml, hown, hts⟩ (n_X6_add_8 l (hP.sub (ws' := [(h1, .inr (6, [.ref h2, .int 8, zz2, zz3, zz4, zz5, zz6, zz7, zz8, zz9, zz10, zz11])), (h2, .inl (c0 1, 1600, .inl g12_31_1))]) [1, 2] rfl) ((hD.sub (ws' := [(h1, .inr (6, [.ref h2, .int 8, zz2, zz3, zz4, zz5, zz6, zz7, zz8, zz9, zz10, zz11])), (h2, .inl (c0 1, 1600, .inl g12_31_1))]) [1, 2] (by decide) rfl).weaken (fun _ _ _ _ => trivial)) (x1 := x3)) (cwV 1 hts (good_V kw_163 kw_164 kw_165 kw_15 kw_166) rfl rfl rfl (by decide +kernel) ⟨by rw [hR]; decide, by rw [hR]; decide⟩) (np_preV hK hN (hP.sub (ws' := [(h1, .inr (6, [.ref h2, .int 8, zz2, zz3, zz4, zz5, zz6, zz7, zz8, zz9, zz10, zz11])), (h2, .inl (c0 1, 1600, .inl g12_31_1))]) [1, 2] rfl) rfl (q0 := 0) rfl) rfl rfl hl.1 rfl (lv_room (Nat.le_of_ble_eq_true rfl)) dX9_feed_39 ⟨by rw [hR]; decide, by rw [hR]; decide⟩) hS hFc (fun H1 locs hB hS hk1 => ?_)
  obtain ⟨g12_39_2, hP1, hD1⟩ := hB
  obtain ⟨hP, hD⟩ := va_join (wr := [(h0, .inr (9, [.ref h1, z1, z2, z3, z4, z5, z6, z7, z8, z9, z10]))]) (w1 := [(h1, .inr (6, [.ref h2, .int 12, zz2, zz3, zz4, zz5, zz6, zz7, zz8, zz9, zz10, zz11])), (h2, .inl (c0 1, 1600, .inl g12_39_2))]) hP hD [1, 2] [0] rfl rfl (by decide) (by decide) hk1 hFc hP1 hD1
  generalize H1 = H at hP hS ⊢
  have hP : va_P D vwCl [(h0, .inr (9, [.ref h1, z1, z2, z3, z4, z5, z6, z7, z8, z9, z10])), (h1, .inr (6, [.ref h2, .int 12, zz2, zz3, zz4, zz5, zz6, zz7, zz8, zz9, zz10, zz11])), (h2, .inl (c0 1, 1600, .inl g12_39_2))] H := hP
  have hD : va_D A [(h0, .inr (9, [.ref h1, z1, z2, z3, z4, z5, z6, z7, z8, z9, z10])), (h1, .inr (6, [.ref h2, .int 12, zz2, zz3, zz4, zz5, zz6, zz7, zz8, zz9, zz10, zz11])), (h2, .inl (c0 1, 1600, .inl g12_39_2))] := hD
  refine lv_aload_n hx hb dX9_feed_42 rfl (lv_at hl 0 rfl) ?_
  refine va_get (ci := 9) (v := .ref h1) (C := RX9) (T := TX9) (N := 11) hx hb hts inlX9 hown hK hP 0 rfl rfl 0 (by decide) (hts _ kw_16) (fun _ h9 => h9) rfl dX9_feed_43 ?_
  refine lv_iload hx hb dX9_feed_46 (lv_at hl 4 rfl) ?_
  have hFc := va_free (wc := [(h1, .inr (6, [.ref h2, .int 12, zz2, zz3, zz4, zz5, zz6, zz7, zz8, zz9, zz10, zz11])), (h2, .inl (c0 1, 1600, .inl g12_39_2))]) hD hS hA [1, 2] rfl
  refine nq_call (va_runV (As := [.int x4]) (rest := []) ⟨hx, hb, hml, hown, hts⟩ (n_X6_add_12 l (hP.sub (ws' := [(h1, .inr (6, [.ref h2, .int 12, zz2, zz3, zz4, zz5, zz6, zz7, zz8, zz9, zz10, zz11])), (h2, .inl (c0 1, 1600, .inl g12_39_2))]) [1, 2] rfl) ((hD.sub (ws' := [(h1, .inr (6, [.ref h2, .int 12, zz2, zz3, zz4, zz5, zz6, zz7, zz8, zz9, zz10, zz11])), (h2, .inl (c0 1, 1600, .inl g12_39_2))]) [1, 2] (by decide) rfl).weaken (fun _ _ _ _ => trivial)) (x1 := x4)) (cwV 1 hts (good_V kw_163 kw_164 kw_165 kw_15 kw_166) rfl rfl rfl (by decide +kernel) ⟨by rw [hR]; decide, by rw [hR]; decide⟩) (np_preV hK hN (hP.sub (ws' := [(h1, .inr (6, [.ref h2, .int 12, zz2, zz3, zz4, zz5, zz6, zz7, zz8, zz9, zz10, zz11])), (h2, .inl (c0 1, 1600, .inl g12_39_2))]) [1, 2] rfl) rfl (q0 := 0) rfl) rfl rfl hl.1 rfl (lv_room (Nat.le_of_ble_eq_true rfl)) dX9_feed_48 ⟨by rw [hR]; decide, by rw [hR]; decide⟩) hS hFc (fun H1 locs hB hS hk1 => ?_)
  obtain ⟨g12_48_3, hP1, hD1⟩ := hB
  obtain ⟨hP, hD⟩ := va_join (wr := [(h0, .inr (9, [.ref h1, z1, z2, z3, z4, z5, z6, z7, z8, z9, z10]))]) (w1 := [(h1, .inr (6, [.ref h2, .int 16, zz2, zz3, zz4, zz5, zz6, zz7, zz8, zz9, zz10, zz11])), (h2, .inl (c0 1, 1600, .inl g12_48_3))]) hP hD [1, 2] [0] rfl rfl (by decide) (by decide) hk1 hFc hP1 hD1
  generalize H1 = H at hP hS ⊢
  have hP : va_P D vwCl [(h0, .inr (9, [.ref h1, z1, z2, z3, z4, z5, z6, z7, z8, z9, z10])), (h1, .inr (6, [.ref h2, .int 16, zz2, zz3, zz4, zz5, zz6, zz7, zz8, zz9, zz10, zz11])), (h2, .inl (c0 1, 1600, .inl g12_48_3))] H := hP
  have hD : va_D A [(h0, .inr (9, [.ref h1, z1, z2, z3, z4, z5, z6, z7, z8, z9, z10])), (h1, .inr (6, [.ref h2, .int 16, zz2, zz3, zz4, zz5, zz6, zz7, zz8, zz9, zz10, zz11])), (h2, .inl (c0 1, 1600, .inl g12_48_3))] := hD
  refine lv_aload_n hx hb dX9_feed_51 rfl (lv_at hl 0 rfl) ?_
  refine va_get (ci := 9) (v := .ref h1) (C := RX9) (T := TX9) (N := 11) hx hb hts inlX9 hown hK hP 0 rfl rfl 0 (by decide) (hts _ kw_16) (fun _ h9 => h9) rfl dX9_feed_52 ?_
  refine lv_iload hx hb dX9_feed_55 (lv_at hl 5 rfl) ?_
  have hFc := va_free (wc := [(h1, .inr (6, [.ref h2, .int 16, zz2, zz3, zz4, zz5, zz6, zz7, zz8, zz9, zz10, zz11])), (h2, .inl (c0 1, 1600, .inl g12_48_3))]) hD hS hA [1, 2] rfl
  refine nq_call (va_runV (As := [.int x5]) (rest := []) ⟨hx, hb, hml, hown, hts⟩ (n_X6_add_16 l (hP.sub (ws' := [(h1, .inr (6, [.ref h2, .int 16, zz2, zz3, zz4, zz5, zz6, zz7, zz8, zz9, zz10, zz11])), (h2, .inl (c0 1, 1600, .inl g12_48_3))]) [1, 2] rfl) ((hD.sub (ws' := [(h1, .inr (6, [.ref h2, .int 16, zz2, zz3, zz4, zz5, zz6, zz7, zz8, zz9, zz10, zz11])), (h2, .inl (c0 1, 1600, .inl g12_48_3))]) [1, 2] (by decide) rfl).weaken (fun _ _ _ _ => trivial)) (x1 := x5)) (cwV 1 hts (good_V kw_163 kw_164 kw_165 kw_15 kw_166) rfl rfl rfl (by decide +kernel) ⟨by rw [hR]; decide, by rw [hR]; decide⟩) (np_preV hK hN (hP.sub (ws' := [(h1, .inr (6, [.ref h2, .int 16, zz2, zz3, zz4, zz5, zz6, zz7, zz8, zz9, zz10, zz11])), (h2, .inl (c0 1, 1600, .inl g12_48_3))]) [1, 2] rfl) rfl (q0 := 0) rfl) rfl rfl hl.1 rfl (lv_room (Nat.le_of_ble_eq_true rfl)) dX9_feed_57 ⟨by rw [hR]; decide, by rw [hR]; decide⟩) hS hFc (fun H1 locs hB hS hk1 => ?_)
  obtain ⟨g12_57_4, hP1, hD1⟩ := hB
  obtain ⟨hP, hD⟩ := va_join (wr := [(h0, .inr (9, [.ref h1, z1, z2, z3, z4, z5, z6, z7, z8, z9, z10]))]) (w1 := [(h1, .inr (6, [.ref h2, .int 20, zz2, zz3, zz4, zz5, zz6, zz7, zz8, zz9, zz10, zz11])), (h2, .inl (c0 1, 1600, .inl g12_57_4))]) hP hD [1, 2] [0] rfl rfl (by decide) (by decide) hk1 hFc hP1 hD1
  generalize H1 = H at hP hS ⊢
  have hP : va_P D vwCl [(h0, .inr (9, [.ref h1, z1, z2, z3, z4, z5, z6, z7, z8, z9, z10])), (h1, .inr (6, [.ref h2, .int 20, zz2, zz3, zz4, zz5, zz6, zz7, zz8, zz9, zz10, zz11])), (h2, .inl (c0 1, 1600, .inl g12_57_4))] H := hP
  have hD : va_D A [(h0, .inr (9, [.ref h1, z1, z2, z3, z4, z5, z6, z7, z8, z9, z10])), (h1, .inr (6, [.ref h2, .int 20, zz2, zz3, zz4, zz5, zz6, zz7, zz8, zz9, zz10, zz11])), (h2, .inl (c0 1, 1600, .inl g12_57_4))] := hD
  refine lv_aload_n hx hb dX9_feed_60 rfl (lv_at hl 0 rfl) ?_
  refine va_get (ci := 9) (v := .ref h1) (C := RX9) (T := TX9) (N := 11) hx hb hts inlX9 hown hK hP 0 rfl rfl 0 (by decide) (hts _ kw_16) (fun _ h9 => h9) rfl dX9_feed_61 ?_
  refine va_get (ci := 6) (v := .int 20) (C := RX6) (T := TX6) (N := 12) hx hb hts inlX6 hown hK hP 1 rfl rfl 1 (by decide) (hts _ kw_162) (fun _ h9 => h9) rfl dX9_feed_64 ?_
  exact W.iret hx hb hr (fun t ht hW => ⟨⟨_, rfl, rfl⟩, hS.F ht⟩) hS.2.2 dX9_feed_67 hlocks
