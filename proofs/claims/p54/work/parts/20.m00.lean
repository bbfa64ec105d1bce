set_option maxHeartbeats 4000000 in
set_option maxRecDepth 100000 in
theorem t_X0_clear (l : Launch) {D : va_G} {c0 : Nat → ClassId} {Y : Nat → Option Nat} {ν : Nat → Nat} {H : Heap} (hT : TI D vwCl (tysOf c0) (RTg ν) Y H) {a0 : Nat} (ha0 : Y a0 = some 0) : Met l yX0_clear (wz yX0_clear cX0_clear 1 none) { frames := 0, cells := 0, slots := 0, locals := 0 } (TP D vwCl (tysOf c0) H [.ref a0]) (TQv (fun H' => TI D vwCl (tysOf c0) (RTg ν) Y H') Y [0]) 0 0 (pW Y [0]) := by
  refine Met.ofW (cc := cX0_clear) (maxL := 1) (ret := none) (by decide) rfl ?_
  intro p e s m args below meth c s₁ B hml hv
  obtain ⟨rfl, rfl, hK⟩ := hv
  have hx := B.exec
  have hb := B.bytes
  have hr := B.returns
  have hts : ∀ w ∈ wq, w.before _ s = true := fun w h => atoms_spec (ws := wz yX0_clear cX0_clear 1 none) B.pre w (List.mem_cons_of_mem _ h)
  have hown : s.vm.findClass RX0 = some m.cls := findClass_of_methodNamed B.named
  have hlocks := B.notSynchronized
  obtain ⟨R, hR⟩ : ∃ R : Room, R = ({ frames := 0, cells := 0, slots := 0, locals := 0 } : Room) := ⟨_, rfl⟩
  rw [show (headSpec (wz yX0_clear cX0_clear 1 none) { frames := 0, cells := 0, slots := 0, locals := 0 }).room = R from hR.symm]
  refine ti_mv hx hb hr hlocks (fun Q ret => ?_)
  have hl := lv_entry [.ref a0] (n := 1) (Nat.le_of_ble_eq_true rfl)
  rw [lg_entry_eq]
  generalize (lg_sl [.ref a0] ++ List.replicate (1 - (lg_sl [.ref a0]).length) Slot.unset).toArray = ls at hl ⊢
  have hl : lv_has ls 1 [(0, .ref a0)] := hl
  refine ti_gen (P := fun H => TI D vwCl (tysOf c0) (RTg ν) Y H) (Y := Y) (ws := [0]) hT (fun H locs hT hS => ?_)
  refine lv_aload_n hx hb dX0_clear_0 rfl (lv_at hl 0 rfl) ?_
  refine lv_iconst (v := 0) hx hb dX0_clear_1 (by decide) ?_
  refine ti_put (ty := .int) hx hb hts inlX0 tyX0 tyX0_ok nmX0 hown hK hT hS ha0 rfl rfl rfl rfl 0 (by decide) (hts _ kw_96) (fun _ h9 => h9) rfl rfl (by decide +kernel) rfl rfl ⟨(0 : Int32), rfl, iv_w (iv_c (x := (0 : Int32)) (k := 0) (by decide)) (by decide)⟩ (fun _ _ => trivial) dX0_clear_2 (fun H locs hT hS oq2 he2 hk2 => ?_)
  refine lv_aload_n hx hb dX0_clear_5 rfl (lv_at hl 0 rfl) ?_
  refine lv_iconst (v := 2) hx hb dX0_clear_6 (by decide) ?_
  refine ti_put (ty := .int) hx hb hts inlX0 tyX0 tyX0_ok nmX0 hown hK hT hS ha0 rfl rfl rfl rfl 1 (by decide) (hts _ kw_97) (fun _ h9 => h9) rfl rfl (by decide +kernel) rfl rfl ⟨(2 : Int32), rfl, iv_w (iv_c (x := (2 : Int32)) (k := 2) (by decide)) (by decide)⟩ (fun _ _ => trivial) dX0_clear_7 (fun H locs hT hS oq7 he7 hk7 => ?_)
  refine lv_aload_n hx hb dX0_clear_10 rfl (lv_at hl 0 rfl) ?_
  refine lv_iconst (v := 0) hx hb dX0_clear_11 (by decide) ?_
  refine ti_put (ty := .int) hx hb hts inlX0 tyX0 tyX0_ok nmX0 hown hK hT hS ha0 rfl rfl rfl rfl 2 (by decide) (hts _ kw_98) (fun _ h9 => h9) rfl rfl (by decide +kernel) rfl rfl ⟨(0 : Int32), rfl, iv_w (iv_c (x := (0 : Int32)) (k := 0) (by decide)) (by decide)⟩ (fun _ _ => trivial) dX0_clear_12 (fun H locs hT hS oq12 he12 hk12 => ?_)
  refine lv_aload_n hx hb dX0_clear_15 rfl (lv_at hl 0 rfl) ?_
  refine lv_iconst (v := 0) hx hb dX0_clear_16 (by decide) ?_
  refine ti_put (ty := .boolean) hx hb hts inlX0 tyX0 tyX0_ok nmX0 hown hK hT hS ha0 rfl rfl rfl rfl 3 (by decide) (hts _ kw_99) (fun _ h9 => h9) rfl rfl (by decide +kernel) (ti_nz (iv_w (iv_c (x := (0 : Int32)) (k := 0) (by decide)) (by decide))).1 (ti_nz (iv_w (iv_c (x := (0 : Int32)) (k := 0) (by decide)) (by decide))).2 ⟨(0 : Int32), rfl, iv_w (iv_c (x := (0 : Int32)) (k := 0) (by decide)) (by decide)⟩ (fun _ _ => trivial) dX0_clear_17 (fun H locs hT hS oq17 he17 hk17 => ?_)
  refine lv_aload_n hx hb dX0_clear_20 rfl (lv_at hl 0 rfl) ?_
  refine lv_iconst (v := 0) hx hb dX0_clear_21 (by decide) ?_
  refine ti_put (ty := .int) hx hb hts inlX0 tyX0 tyX0_ok nmX0 hown hK hT hS ha0 rfl rfl rfl rfl 4 (by decide) (hts _ kw_100) (fun _ h9 => h9) rfl rfl (by decide +kernel) rfl rfl ⟨(0 : Int32), rfl, iv_w (iv_c (x := (0 : Int32)) (k := 0) (by decide)) (by decide)⟩ (fun _ _ => trivial) dX0_clear_22 (fun H locs hT hS oq22 he22 hk22 => ?_)
  exact ret _ _ _ _ dX0_clear_25 (hT) hS
set_option maxHeartbeats 4000000 in
set_option maxRecDepth 100000 in
theorem t_X0_copyFrom (l : Launch) {D : va_G} {c0 : Nat → ClassId} {Y : Nat → Option Nat} {ν : Nat → Nat} {H : Heap} (hT : TI D vwCl (tysOf c0) (RTg ν) Y H) {a0 : Nat} (ha0 : Y a0 = some 0) {a1 : Nat} (ha1 : Y a1 = some 0) : Met l yX0_copyFrom (wz yX0_copyFrom cX0_copyFrom 2 none) { frames := 0, cells := 0, slots := 0, locals := 0 } (TP D vwCl (tysOf c0) H [.ref a0, .ref a1]) (TQv (fun H' => TI D vwCl (tysOf c0) (RTg ν) Y H') Y [0]) 0 0 (pW Y [0]) := by
  refine Met.ofW (cc := cX0_copyFrom) (maxL := 2) (ret := none) (by decide) rfl ?_
  intro p e s m args below meth c s₁ B hml hv
  obtain ⟨rfl, rfl, hK⟩ := hv
  have hx := B.exec
  have hb := B.bytes
  have hr := B.returns
  have hts : ∀ w ∈ wq, w.before _ s = true := fun w h => atoms_spec (ws := wz yX0_copyFrom cX0_copyFrom 2 none) B.pre w (List.mem_cons_of_mem _ h)
  have hown : s.vm.findClass RX0 = some m.cls := findClass_of_methodNamed B.named
  have hlocks := B.notSynchronized
  obtain ⟨R, hR⟩ : ∃ R : Room, R = ({ frames := 0, cells := 0, slots := 0, locals := 0 } : Room) := ⟨_, rfl⟩
  rw [show (headSpec (wz yX0_copyFrom cX0_copyFrom 2 none) { frames := 0, cells := 0, slots := 0, locals := 0 }).room = R from hR.symm]
  refine ti_mv hx hb hr hlocks (fun Q ret => ?_)
  have hl := lv_entry [.ref a0, .ref a1] (n := 2) (Nat.le_of_ble_eq_true rfl)
  rw [lg_entry_eq]
  generalize (lg_sl [.ref a0, .ref a1] ++ List.replicate (2 - (lg_sl [.ref a0, .ref a1]).length) Slot.unset).toArray = ls at hl ⊢
  have hl : lv_has ls 2 [(0, .ref a0), (1, .ref a1)] := hl
  refine ti_gen (P := fun H => TI D vwCl (tysOf c0) (RTg ν) Y H) (Y := Y) (ws := [0]) hT (fun H locs hT hS => ?_)
  refine lv_aload_n hx hb dX0_copyFrom_0 rfl (lv_at hl 0 rfl) ?_
  refine lv_aload_n hx hb dX0_copyFrom_1 rfl (lv_at hl 1 rfl) ?_
  refine ti_geti hx hb hts inlX0 hown hK hT ha1 rfl rfl rfl 0 (by decide) (hts _ kw_96) (fun _ h9 => h9) rfl dX0_copyFrom_2 (fun v2 hv2 hm2 => ?_)
  refine ti_put (ty := .int) hx hb hts inlX0 tyX0 tyX0_ok nmX0 hown hK hT hS ha0 rfl rfl rfl rfl 0 (by decide) (hts _ kw_96) (fun _ h9 => h9) rfl rfl (by decide +kernel) rfl rfl ⟨v2, rfl, iv_w hv2 (by decide)⟩ (fun _ _ => trivial) dX0_copyFrom_5 (fun H locs hT hS oq5 he5 hk5 => ?_)
  refine lv_aload_n hx hb dX0_copyFrom_8 rfl (lv_at hl 0 rfl) ?_
  refine lv_aload_n hx hb dX0_copyFrom_9 rfl (lv_at hl 1 rfl) ?_
  refine ti_geti hx hb hts inlX0 hown hK hT ha1 rfl rfl rfl 1 (by decide) (hts _ kw_97) (fun _ h9 => h9) rfl dX0_copyFrom_10 (fun v10 hv10 hm10 => ?_)
  refine ti_put (ty := .int) hx hb hts inlX0 tyX0 tyX0_ok nmX0 hown hK hT hS ha0 rfl rfl rfl rfl 1 (by decide) (hts _ kw_97) (fun _ h9 => h9) rfl rfl (by decide +kernel) rfl rfl ⟨v10, rfl, iv_w hv10 (by decide)⟩ (fun _ _ => trivial) dX0_copyFrom_13 (fun H locs hT hS oq13 he13 hk13 => ?_)
  refine lv_aload_n hx hb dX0_copyFrom_16 rfl (lv_at hl 0 rfl) ?_
  refine lv_aload_n hx hb dX0_copyFrom_17 rfl (lv_at hl 1 rfl) ?_
  refine ti_geti hx hb hts inlX0 hown hK hT ha1 rfl rfl rfl 2 (by decide) (hts _ kw_98) (fun _ h9 => h9) rfl dX0_copyFrom_18 (fun v18 hv18 hm18 => ?_)
  refine ti_put (ty := .int) hx hb hts inlX0 tyX0 tyX0_ok nmX0 hown hK hT hS ha0 rfl rfl rfl rfl 2 (by decide) (hts _ kw_98) (fun _ h9 => h9) rfl rfl (by decide +kernel) rfl rfl ⟨v18, rfl, iv_w hv18 (by decide)⟩ (fun _ _ => trivial) dX0_copyFrom_21 (fun H locs hT hS oq21 he21 hk21 => ?_)
  refine lv_aload_n hx hb dX0_copyFrom_24 rfl (lv_at hl 0 rfl) ?_
  refine lv_aload_n hx hb dX0_copyFrom_25 rfl (lv_at hl 1 rfl) ?_
  refine ti_geti hx hb hts inlX0 hown hK hT ha1 rfl rfl rfl 3 (by decide) (hts _ kw_99) (fun _ h9 => h9) rfl dX0_copyFrom_26 (fun v26 hv26 hm26 => ?_)
  refine ti_put (ty := .boolean) hx hb hts inlX0 tyX0 tyX0_ok nmX0 hown hK hT hS ha0 rfl rfl rfl rfl 3 (by decide) (hts _ kw_99) (fun _ h9 => h9) rfl rfl (by decide +kernel) (ti_nz (iv_w hv26 (by decide))).1 (ti_nz (iv_w hv26 (by decide))).2 ⟨v26, rfl, iv_w hv26 (by decide)⟩ (fun _ _ => trivial) dX0_copyFrom_29 (fun H locs hT hS oq29 he29 hk29 => ?_)
  refine lv_aload_n hx hb dX0_copyFrom_32 rfl (lv_at hl 0 rfl) ?_
  refine lv_aload_n hx hb dX0_copyFrom_33 rfl (lv_at hl 1 rfl) ?_
  refine ti_geti hx hb hts inlX0 hown hK hT ha1 rfl rfl rfl 4 (by decide) (hts _ kw_100) (fun _ h9 => h9) rfl dX0_copyFrom_34 (fun v34 hv34 hm34 => ?_)
  refine ti_put (ty := .int) hx hb hts inlX0 tyX0 tyX0_ok nmX0 hown hK hT hS ha0 rfl rfl rfl rfl 4 (by decide) (hts _ kw_100) (fun _ h9 => h9) rfl rfl (by decide +kernel) rfl rfl ⟨v34, rfl, iv_w hv34 (by decide)⟩ (fun _ _ => trivial) dX0_copyFrom_37 (fun H locs hT hS oq37 he37 hk37 => ?_)
  exact ret _ _ _ _ dX0_copyFrom_40 (hT) hS
set_option maxHeartbeats 4000000 in
set_option maxRecDepth 100000 in
theorem t_X1_copyFrom (l : Launch) {D : va_G} {c0 : Nat → ClassId} {Y : Nat → Option Nat} {ν : Nat → Nat} {H : Heap} (hT : TI D vwCl (tysOf c0) (RTg ν) Y H) {a0 : Nat} (ha0 : Y a0 = some 1) {a1 : Nat} (ha1 : Y a1 = some 1) : Met l yX1_copyFrom (wz yX1_copyFrom cX1_copyFrom 2 none) { frames := 1, cells := 0, slots := 0, locals := 60 } (TP D vwCl (tysOf c0) H [.ref a0, .ref a1]) (TQv (fun H' => TI D vwCl (tysOf c0) (RTg ν) Y H') Y [1, 20, 28]) 0 0 (pW Y [1, 20, 28]) := by
  refine Met.ofW (cc := cX1_copyFrom) (maxL := 2) (ret := none) (by decide) rfl ?_
  intro p e s m args below meth c s₁ B hml hv
  obtain ⟨rfl, rfl, hK⟩ := hv
  have hx := B.exec
  have hb := B.bytes
  have hr := B.returns
  have hts : ∀ w ∈ wq, w.before _ s = true := fun w h => atoms_spec (ws := wz yX1_copyFrom cX1_copyFrom 2 none) B.pre w (List.mem_cons_of_mem _ h)
  have hown : s.vm.findClass RX1 = some m.cls := findClass_of_methodNamed B.named
  have hlocks := B.notSynchronized
  obtain ⟨R, hR⟩ : ∃ R : Room, R = ({ frames := 1, cells := 0, slots := 0, locals := 60 } : Room) := ⟨_, rfl⟩
  rw [show (headSpec (wz yX1_copyFrom cX1_copyFrom 2 none) { frames := 1, cells := 0, slots := 0, locals := 60 }).room = R from hR.symm]
  refine ti_mv hx hb hr hlocks (fun Q ret => ?_)
  have hl := lv_entry [.ref a0, .ref a1] (n := 2) (Nat.le_of_ble_eq_true rfl)
  rw [lg_entry_eq]
  generalize (lg_sl [.ref a0, .ref a1] ++ List.replicate (2 - (lg_sl [.ref a0, .ref a1]).length) Slot.unset).toArray = ls at hl ⊢
  have hl : lv_has ls 2 [(0, .ref a0), (1, .ref a1)] := hl
  refine ti_gen (P := fun H => TI D vwCl (tysOf c0) (RTg ν) Y H) (Y := Y) (ws := [1, 20, 28]) hT (fun H locs hT hS => ?_)
  refine lv_aload_n hx hb dX1_copyFrom_0 rfl (lv_at hl 0 rfl) ?_
  refine lv_aload_n hx hb dX1_copyFrom_1 rfl (lv_at hl 1 rfl) ?_
  refine ti_geti hx hb hts inlX1 hown hK hT ha1 rfl rfl rfl 0 (by decide) (hts _ kw_358) (fun _ h9 => h9) rfl dX1_copyFrom_2 (fun v2 hv2 hm2 => ?_)
  refine ti_put (ty := .int) hx hb hts inlX1 tyX1 tyX1_ok nmX1 hown hK hT hS ha0 rfl rfl rfl rfl 0 (by decide) (hts _ kw_358) (fun _ h9 => h9) rfl rfl (by decide +kernel) rfl rfl ⟨v2, rfl, iv_w hv2 (by decide)⟩ (fun _ _ => trivial) dX1_copyFrom_5 (fun H locs hT hS oq5 he5 hk5 => ?_)
  refine lv_aload_n hx hb dX1_copyFrom_8 rfl (lv_at hl 1 rfl) ?_
  refine ti_getr hx hb hts inlX1 hown hK hT ha1 rfl rfl rfl 1 (by decide) (hts _ kw_75) (fun _ h9 => h9) rfl dX1_copyFrom_9 (fun v9 hv9 hm9 => ?_)
  refine lv_iconst (v := 0) hx hb dX1_copyFrom_12 (by decide) ?_
  refine lv_aload_n hx hb dX1_copyFrom_13 rfl (lv_at hl 0 rfl) ?_
  refine ti_getr hx hb hts inlX1 hown hK hT ha0 rfl rfl rfl 1 (by decide) (hts _ kw_75) (fun _ h9 => h9) rfl dX1_copyFrom_14 (fun v14 hv14 hm14 => ?_)
  refine lv_iconst (v := 0) hx hb dX1_copyFrom_17 (by decide) ?_
  refine lv_bipush (v := 6) hx hb dX1_copyFrom_18 (by decide) ?_
  refine ti_copyi hx hb (by rw [hml]; exact hl.1.symm) hown (hts _ kw_359) (hts _ kw_347) (hts _ kw_348) (hts _ kw_349) hK hT hS hv9 hv14 rfl rfl (fun _ => trivial) (fun _ _ => ⟨_, _, rfl⟩) (fun _ _ => rfl) (by decide) (by rw [hR]; decide) (by rw [hR]; exact Nat.le_of_ble_eq_true rfl) dX1_copyFrom_20 (fun H locs hT hS => ?_)
  refine lv_aload_n hx hb dX1_copyFrom_23 rfl (lv_at hl 1 rfl) ?_
  refine ti_getr hx hb hts inlX1 hown hK hT ha1 rfl rfl rfl 2 (by decide) (hts _ kw_76) (fun _ h9 => h9) rfl dX1_copyFrom_24 (fun v24 hv24 hm24 => ?_)
  refine lv_iconst (v := 0) hx hb dX1_copyFrom_27 (by decide) ?_
  refine lv_aload_n hx hb dX1_copyFrom_28 rfl (lv_at hl 0 rfl) ?_
  refine ti_getr hx hb hts inlX1 hown hK hT ha0 rfl rfl rfl 2 (by decide) (hts _ kw_76) (fun _ h9 => h9) rfl dX1_copyFrom_29 (fun v29 hv29 hm29 => ?_)
  refine lv_iconst (v := 0) hx hb dX1_copyFrom_32 (by decide) ?_
  refine lv_bipush (v := 6) hx hb dX1_copyFrom_33 (by decide) ?_
  refine ti_copyi hx hb (by rw [hml]; exact hl.1.symm) hown (hts _ kw_359) (hts _ kw_347) (hts _ kw_348) (hts _ kw_349) hK hT hS hv24 hv29 rfl rfl (fun _ => trivial) (fun _ _ => ⟨_, _, rfl⟩) (fun _ _ => rfl) (by decide) (by rw [hR]; decide) (by rw [hR]; exact Nat.le_of_ble_eq_true rfl) dX1_copyFrom_35 (fun H locs hT hS => ?_)
  refine lv_aload_n hx hb dX1_copyFrom_38 rfl (lv_at hl 1 rfl) ?_
  refine ti_getr hx hb hts inlX1 hown hK hT ha1 rfl rfl rfl 3 (by decide) (hts _ kw_77) (fun _ h9 => h9) rfl dX1_copyFrom_39 (fun v39 hv39 hm39 => ?_)
  refine lv_iconst (v := 0) hx hb dX1_copyFrom_42 (by decide) ?_
  refine lv_aload_n hx hb dX1_copyFrom_43 rfl (lv_at hl 0 rfl) ?_
  refine ti_getr hx hb hts inlX1 hown hK hT ha0 rfl rfl rfl 3 (by decide) (hts _ kw_77) (fun _ h9 => h9) rfl dX1_copyFrom_44 (fun v44 hv44 hm44 => ?_)
  refine lv_iconst (v := 0) hx hb dX1_copyFrom_47 (by decide) ?_
  refine lv_bipush (v := 6) hx hb dX1_copyFrom_48 (by decide) ?_
  refine ti_copyi hx hb (by rw [hml]; exact hl.1.symm) hown (hts _ kw_359) (hts _ kw_347) (hts _ kw_348) (hts _ kw_349) hK hT hS hv39 hv44 rfl rfl (fun _ => trivial) (fun _ _ => ⟨_, _, rfl⟩) (fun _ _ => rfl) (by decide) (by rw [hR]; decide) (by rw [hR]; exact Nat.le_of_ble_eq_true rfl) dX1_copyFrom_50 (fun H locs hT hS => ?_)
  exact ret _ _ _ _ dX1_copyFrom_53 (hT) hS
set_option maxHeartbeats 4000000 in
set_option maxRecDepth 100000 in
theorem t_X3_shown (l : Launch) {D : va_G} {c0 : Nat → ClassId} {Y : Nat → Option Nat} {ν : Nat → Nat} {H : Heap} (hT : TI D vwCl (tysOf c0) (RTg ν) Y H) {a0 : Nat} (ha0 : Y a0 = some 3) : Met l yX3_shown (wz yX3_shown cX3_shown 1 (some .int)) { frames := 0, cells := 0, slots := 0, locals := 0 } (TP D vwCl (tysOf c0) H [.ref a0]) (TQi (fun x H' => H' = H) Y []) 0 0 (pW Y []) := by
  refine Met.ofW (cc := cX3_shown) (maxL := 1) (ret := (some .int)) (by decide) rfl ?_
  intro p e s m args below meth c s₁ B hml hv
  obtain ⟨rfl, rfl, hK⟩ := hv
  have hx := B.exec
  have hb := B.bytes
  have hr := B.returns
  have hts : ∀ w ∈ wq, w.before _ s = true := fun w h => atoms_spec (ws := wz yX3_shown cX3_shown 1 (some .int)) B.pre w (List.mem_cons_of_mem _ h)
  have hown : s.vm.findClass RX3 = some m.cls := findClass_of_methodNamed B.named
  have hlocks := B.notSynchronized
  obtain ⟨R, hR⟩ : ∃ R : Room, R = ({ frames := 0, cells := 0, slots := 0, locals := 0 } : Room) := ⟨_, rfl⟩
  rw [show (headSpec (wz yX3_shown cX3_shown 1 (some .int)) { frames := 0, cells := 0, slots := 0, locals := 0 }).room = R from hR.symm]
  refine ti_mi hx hb hr hlocks (fun Q ret => ?_)
  have hl := lv_entry [.ref a0] (n := 1) (Nat.le_of_ble_eq_true rfl)
  rw [lg_entry_eq]
  generalize (lg_sl [.ref a0] ++ List.replicate (1 - (lg_sl [.ref a0]).length) Slot.unset).toArray = ls at hl ⊢
  have hl : lv_has ls 1 [(0, .ref a0)] := hl
  have hS : va_S (pW Y []) s.heap s.heap [] := va_S.rf
  refine lv_aload_n hx hb dX3_shown_0 rfl (lv_at hl 0 rfl) ?_
  refine ti_geti hx hb hts inlX3 hown hK hT ha0 rfl rfl rfl 0 (by decide) (hts _ kw_364) (fun _ h9 => h9) rfl dX3_shown_1 (fun v1 hv1 hm1 => ?_)
  refine lv_aload_n hx hb dX3_shown_4 rfl (lv_at hl 0 rfl) ?_
  refine ti_geti hx hb hts inlX3 hown hK hT ha0 rfl rfl rfl 1 (by decide) (hts _ kw_365) (fun _ h9 => h9) rfl dX3_shown_5 (fun v5 hv5 hm5 => ?_)
  refine lv_isub hx hb dX3_shown_8 ?_
  refine lv_topi (fun v8 e8 => ?_)
  have hv8 : iv v8 (-2147483648) 2147483647 := iv_top _
  exact ret _ _ _ _ _ dX3_shown_9 (rfl) hS
set_option maxHeartbeats 4000000 in
set_option maxRecDepth 100000 in
theorem t_X7_seenBy (l : Launch) {D : va_G} {c0 : Nat → ClassId} {Y : Nat → Option Nat} {ν : Nat → Nat} {H : Heap} (hT : TI D vwCl (tysOf c0) (RTg ν) Y H) {a0 : Nat} (ha0 : Y a0 = some 7) {x1 : Int32} (hx1 : iv x1 0 7) {x2 : Int32} (hx2 : iv x2 0 7) : Met l yX7_seenBy (wz yX7_seenBy cX7_seenBy 5 (some .int)) { frames := 1, cells := 0, slots := 0, locals := 20 } (TP D vwCl (tysOf c0) H [.ref a0, .int x1, .int x2]) (TQi (fun x H' => H' = H) Y []) 0 0 (pW Y []) := by
  refine Met.ofW (cc := cX7_seenBy) (maxL := 5) (ret := (some .int)) (by decide) rfl ?_
  intro p e s m args below meth c s₁ B hml hv
  obtain ⟨rfl, rfl, hK⟩ := hv
  have hx := B.exec
  have hb := B.bytes
  have hr := B.returns
  have hts : ∀ w ∈ wq, w.before _ s = true := fun w h => atoms_spec (ws := wz yX7_seenBy cX7_seenBy 5 (some .int)) B.pre w (List.mem_cons_of_mem _ h)
  have hown : s.vm.findClass RX7 = some m.cls := findClass_of_methodNamed B.named
  have hlocks := B.notSynchronized
  obtain ⟨R, hR⟩ : ∃ R : Room, R = ({ frames := 1, cells := 0, slots := 0, locals := 20 } : Room) := ⟨_, rfl⟩
  rw [show (headSpec (wz yX7_seenBy cX7_seenBy 5 (some .int)) { frames := 1, cells := 0, slots := 0, locals := 20 }).room = R from hR.symm]
  refine ti_mi hx hb hr hlocks (fun Q ret => ?_)
  have hl := lv_entry [.ref a0, .int x1, .int x2] (n := 5) (Nat.le_of_ble_eq_true rfl)
  rw [lg_entry_eq]
  generalize (lg_sl [.ref a0, .int x1, .int x2] ++ List.replicate (5 - (lg_sl [.ref a0, .int x1, .int x2]).length) Slot.unset).toArray = ls at hl ⊢
  have hl : lv_has ls 5 [(0, .ref a0), (1, .int x1), (2, .int x2)] := hl
  have hS : va_S (pW Y []) s.heap s.heap [] := va_S.rf
  refine lv_aload_n hx hb dX7_seenBy_0 rfl (lv_at hl 0 rfl) ?_
  refine ti_getr hx hb hts inlX7 hown hK hT ha0 rfl rfl rfl 8 (by decide) (hts _ kw_65) (fun _ h9 => h9) rfl dX7_seenBy_1 (fun v1 hv1 hm1 => ?_)
  refine lv_iload_n hx hb dX7_seenBy_4 rfl (lv_at hl 2 rfl) ?_
  refine ti_aald hx hb (aT6 hK) hT hv1 rfl hx2 (by decide) (fun _ _ _ => rfl) dX7_seenBy_5 (fun v5 hv5 => ?_)
  refine ti_calli (va_runV (As := []) (rest := []) ⟨hx, hb, hml, hown, hts⟩ (t_X3_shown l hT hv5) (cwV 0 hts (good_V kw_537 kw_538 kw_539 kw_68 kw_540) rfl rfl rfl (by decide +kernel) ⟨by rw [hR]; decide, by rw [hR]; decide⟩) (ti_preV hK hT hv5 rfl rfl) rfl rfl hl.1 rfl (lv_room (Nat.le_of_ble_eq_true rfl)) dX7_seenBy_6 ⟨Nat.zero_le _, Nat.zero_le _⟩) hS (pW_sub rfl) (fun v6 H1 locs hB hS _ hk6 => ?_)
  have hH := hB
  rw [hH] at hS ⊢
  refine lv_istore_n (lv' := [(3, .int v6), (0, .ref a0), (1, .int x1), (2, .int x2)]) hx hb dX7_seenBy_9 rfl hl (by decide) rfl (fun ls hl => ?_)
  refine lv_aload_n hx hb dX7_seenBy_10 rfl (lv_at hl 1 rfl) ?_
  refine ti_getr hx hb hts inlX7 hown hK hT ha0 rfl rfl rfl 9 (by decide) (hts _ kw_66) (fun _ h9 => h9) rfl dX7_seenBy_11 (fun v11 hv11 hm11 => ?_)
  refine lv_iload_n hx hb dX7_seenBy_14 rfl (lv_at hl 2 rfl) ?_
  refine lv_bipush (v := 8) hx hb dX7_seenBy_15 (by decide) ?_
  refine lv_imul hx hb dX7_seenBy_17 ?_
  refine lv_topi (fun v17 e17 => ?_)
  have hv17 : iv v17 0 56 := by rw [e17]; exact iv_mul hx1 (iv_c (x := (8 : Int32)) (k := 8) (by decide)) (by decide)
  have kl8 : (8 : Int32).toInt = 8 := by decide
  have s17 : v17.toInt = x1.toInt * (8 : Int32).toInt := by rw [e17]; exact iv_mulE hx1 (iv_c (x := (8 : Int32)) (k := 8) (by decide)) (by decide)
  have s17 : v17.toInt = 8 * x1.toInt := by rw [s17]; simp only [show (8 : Int32).toInt = 8 from by decide]; try omega
  refine lv_iload_n hx hb dX7_seenBy_18 rfl (lv_at hl 3 rfl) ?_
  refine lv_iadd hx hb dX7_seenBy_19 ?_
  refine lv_topi (fun v19 e19 => ?_)
  have hv19 : iv v19 0 63 := by rw [e19]; exact iv_w (iv_add hv17 hx2 (by decide)) (by decide)
  have s19 : v19.toInt = v17.toInt + x2.toInt := by rw [e19]; exact iv_addE hv17 hx2 (by decide)
  refine ti_iald (lo := (-2147483648)) (hi := 2147483647) hx hb (aT0 hK) hT hv11 rfl hv19 (by decide) (fun _ _ _ => ⟨_, _, rfl, by decide, by decide⟩) dX7_seenBy_20 (fun v20 hv20 hm20 => ?_)
  refine lv_istore (lv' := [(4, .int v20), (3, .int v6), (0, .ref a0), (1, .int x1), (2, .int x2)]) hx hb dX7_seenBy_21 hl (by decide) rfl (fun ls hl => ?_)
  refine lv_iload hx hb dX7_seenBy_23 (lv_at hl 0 rfl) ?_
  refine lv_iconst (v := 1) hx hb dX7_seenBy_25 (by decide) ?_
  refine lv_icmp_le (tgt := 38) hx hb dX7_seenBy_26 (by decide) (fun c26 => ?_) (fun c26 => ?_)
  · skip
    have kl1 : (1 : Int32).toInt = 1 := by decide
    have f26 := i_le c26
    have hv20_26l : iv v20 (-2147483648) 1 := iv_lel hv20 (iv_c (x := (1 : Int32)) (k := 1) (by decide)) c26 (by decide)
    refine lv_iload_n hx hb dX7_seenBy_38 rfl (lv_at hl 1 rfl) ?_
    exact ret _ _ _ _ _ dX7_seenBy_39 (rfl) hS
  · skip
    have kl1 : (1 : Int32).toInt = 1 := by decide
    have f26 := i_nle c26
    have hv20_26r : iv v20 2 2147483647 := iv_ltr (iv_c (x := (1 : Int32)) (k := 1) (by decide)) hv20 (Int32.not_le.mp c26) (by decide)
    refine lv_iload_n hx hb dX7_seenBy_29 rfl (lv_at hl 1 rfl) ?_
    refine lv_iload_n hx hb dX7_seenBy_30 rfl (lv_at hl 1 rfl) ?_
    refine lv_iload hx hb dX7_seenBy_31 (lv_at hl 0 rfl) ?_
    refine lv_irem hx hb dX7_seenBy_33 (iv_ne0 hv20_26r (by decide)) ?_
    refine lv_topi (fun v33 e33 => ?_)
    have hv33 : iv v33 (-2147483646) 2147483646 := by rw [e33]; exact iv_rem (iv_top v6) hv20_26r (by decide)
    refine lv_isub hx hb dX7_seenBy_34 ?_
    refine lv_topi (fun v34 e34 => ?_)
    have hv34 : iv v34 (-2147483648) 2147483647 := iv_top _
    refine lv_goto (tgt := 39) hx hb dX7_seenBy_35 (by decide) ?_
    exact ret _ _ _ _ _ dX7_seenBy_39 (rfl) hS
set_option maxHeartbeats 4000000 in
set_option maxRecDepth 100000 in
theorem t_X2_see (l : Launch) {D : va_G} {c0 : Nat → ClassId} {Y : Nat → Option Nat} {ν : Nat → Nat} {H : Heap} (hT : TI D vwCl (tysOf c0) (RTg ν) Y H) {a0 : Nat} (ha0 : Y a0 = some 2) {a1 : Nat} (ha1 : Y a1 = some 7) {x2 : Int32} (hx2 : iv x2 0 7) {x3 : Int32} (hx3 : iv x3 (-2147483648) 2147483647) {x4 : Int32} (hx4 : iv x4 0 1) : Met l yX2_see (wz yX2_see cX2_see 7 none) { frames := 2, cells := 0, slots := 0, locals := 44 } (TP D vwCl (tysOf c0) H [.ref a0, .ref a1, .int x2, .int x3, .int x4]) (TQv (fun H' => TI D vwCl (tysOf c0) (RTg ν) Y H') Y [2, 29]) 0 0 (pW Y [2, 29]) := by
  refine Met.ofW (cc := cX2_see) (maxL := 7) (ret := none) (by decide) rfl ?_
  intro p e s m args below meth c s₁ B hml hv
  obtain ⟨rfl, rfl, hK⟩ := hv
  have hx := B.exec
  have hb := B.bytes
  have hr := B.returns
  have hts : ∀ w ∈ wq, w.before _ s = true := fun w h => atoms_spec (ws := wz yX2_see cX2_see 7 none) B.pre w (List.mem_cons_of_mem _ h)
  have hown : s.vm.findClass RX2 = some m.cls := findClass_of_methodNamed B.named
  have hlocks := B.notSynchronized
  obtain ⟨R, hR⟩ : ∃ R : Room, R = ({ frames := 2, cells := 0, slots := 0, locals := 44 } : Room) := ⟨_, rfl⟩
  rw [show (headSpec (wz yX2_see cX2_see 7 none) { frames := 2, cells := 0, slots := 0, locals := 44 }).room = R from hR.symm]
  refine ti_mv hx hb hr hlocks (fun Q ret => ?_)
  have hl := lv_entry [.ref a0, .ref a1, .int x2, .int x3, .int x4] (n := 7) (Nat.le_of_ble_eq_true rfl)
  rw [lg_entry_eq]
  generalize (lg_sl [.ref a0, .ref a1, .int x2, .int x3, .int x4] ++ List.replicate (7 - (lg_sl [.ref a0, .ref a1, .int x2, .int x3, .int x4]).length) Slot.unset).toArray = ls at hl ⊢
  have hl : lv_has ls 7 [(0, .ref a0), (1, .ref a1), (2, .int x2), (3, .int x3), (4, .int x4)] := hl
  refine ti_gen (P := fun H => TI D vwCl (tysOf c0) (RTg ν) Y H) (Y := Y) (ws := [2, 29]) hT (fun H locs hT hS => ?_)
  refine lv_aload_n hx hb dX2_see_0 rfl (lv_at hl 0 rfl) ?_
  refine lv_iload_n hx hb dX2_see_1 rfl (lv_at hl 2 rfl) ?_
  refine ti_put (ty := .int) hx hb hts inlX2 tyX2 tyX2_ok nmX2 hown hK hT hS ha0 rfl rfl rfl rfl 2 (by decide) (hts _ kw_870) (fun _ h9 => h9) rfl rfl (by decide +kernel) rfl rfl ⟨x2, rfl, iv_w hx2 (by decide)⟩ (mind_set (by decide) (by decide)) dX2_see_2 (fun H locs hT hS oq2 he2 hk2 => ?_)
  refine lv_aload_n hx hb dX2_see_5 rfl (lv_at hl 0 rfl) ?_
  refine lv_iload hx hb dX2_see_6 (lv_at hl 4 rfl) ?_
  refine ti_put (ty := .boolean) hx hb hts inlX2 tyX2 tyX2_ok nmX2 hown hK hT hS ha0 rfl rfl rfl rfl 3 (by decide) (hts _ kw_871) (fun _ h9 => h9) rfl rfl (by decide +kernel) (ti_nz (iv_w hx4 (by decide))).1 (ti_nz (iv_w hx4 (by decide))).2 ⟨x4, rfl, iv_w hx4 (by decide)⟩ (mind_set (by decide) (by decide)) dX2_see_8 (fun H locs hT hS oq8 he8 hk8 => ?_)
  refine lv_aload_n hx hb dX2_see_11 rfl (lv_at hl 0 rfl) ?_
  refine lv_ldc (v := (-2000000000)) hx hb hown (hts _ kw_872) dX2_see_12 ?_
  refine ti_put (ty := .int) hx hb hts inlX2 tyX2 tyX2_ok nmX2 hown hK hT hS ha0 rfl rfl rfl rfl 4 (by decide) (hts _ kw_873) (fun _ h9 => h9) rfl rfl (by decide +kernel) rfl rfl ⟨(-2000000000 : Int32), rfl, iv_w (iv_c (x := (-2000000000 : Int32)) (k := (-2000000000)) (by decide)) (by decide)⟩ (mind_set (by decide) (by decide)) dX2_see_14 (fun H locs hT hS oq14 he14 hk14 => ?_)
  refine lv_iconst (v := 0) hx hb dX2_see_17 (by decide) ?_
  have J20 : ∀ (n : Nat) (j20_L5 : Int32) (H : Heap) (locs : List Loc) (ls : Array Slot), (8 - j20_L5.toInt).toNat < n → iv j20_L5 0 8 → TI D vwCl (tysOf c0) (RTg ν) Y H → va_S (pW Y [2, 29]) s.heap H locs → lv_has ls 7 [(0, .ref a0), (1, .ref a1), (2, .int x2), (3, .int x3), (4, .int x4), (5, .int j20_L5)] → W p l e R s m ([.ref a0, .ref a1, .int x2, .int x3, .int x4] : List Value).toArray below meth c H locs 0 0 Q (F0 m 20 ls []) := by
    intro n
    induction n with
    | zero => intro j20_L5 H locs ls hms; exact absurd hms (Nat.not_lt_zero _)
    | succ n ih20 =>
      intro j20_L5 H locs ls hms20 hj20_L5 hT hS hl
      refine lv_iload hx hb dX2_see_20 (lv_at hl 5 rfl) ?_
      refine lv_aload_n hx hb dX2_see_22 rfl (lv_at hl 1 rfl) ?_
      refine ti_geti hx hb hts inlX7 hown hK hT ha1 rfl rfl rfl 1 (by decide) (hts _ kw_874) (fun _ h9 => h9) rfl dX2_see_23 (fun v23 hv23 hm23 => ?_)
      refine lv_icmp_ge (tgt := 83) hx hb dX2_see_26 (by decide) (fun c26 => ?_) (fun c26 => ?_)
      · skip
        have f26 := i_le c26
        exact ret _ _ _ _ dX2_see_83 (hT) hS
      · skip
        have f26 := i_nle c26
        have hj20_L5_26l : iv j20_L5 0 7 := iv_ltl hj20_L5 hv23 (Int32.not_le.mp c26) (by decide)
        have hv23_26r : iv v23 1 8 := iv_ltr hj20_L5_26l hv23 (Int32.not_le.mp c26) (by decide)
        refine lv_iload_n hx hb dX2_see_29 rfl (lv_at hl 3 rfl) ?_
        refine lv_iload hx hb dX2_see_30 (lv_at hl 5 rfl) ?_
        refine lv_ishr hx hb dX2_see_32 ?_
        refine lv_topi (fun v32 e32 => ?_)
        have hv32 : iv v32 (-2147483648) 2147483647 := iv_top _
        refine lv_iconst (v := 1) hx hb dX2_see_33 (by decide) ?_
        refine lv_iand hx hb dX2_see_34 ?_
        refine lv_topi (fun v34 e34 => ?_)
        have hv34 : iv v34 0 1 := by rw [e34]; exact iv_and (iv_w (iv_c (x := (1 : Int32)) (k := 1) (by decide)) (by decide))
        have J43 : ∀ (j43_S0 : Int32) (H : Heap) (locs : List Loc) (ls : Array Slot), iv j43_S0 0 1 → TI D vwCl (tysOf c0) (RTg ν) Y H → va_S (pW Y [2, 29]) s.heap H locs → lv_has ls 7 [(0, .ref a0), (1, .ref a1), (2, .int x2), (3, .int x3), (4, .int x4), (5, .int j20_L5)] → W p l e R s m ([.ref a0, .ref a1, .int x2, .int x3, .int x4] : List Value).toArray below meth c H locs 0 0 Q (F0 m 43 ls [.int j43_S0]) := by
          intro j43_S0 H locs ls hj43_S0 hT hS hl
          refine lv_istore (lv' := [(6, .int j43_S0), (0, .ref a0), (1, .ref a1), (2, .int x2), (3, .int x3), (4, .int x4), (5, .int j20_L5)]) hx hb dX2_see_43 hl (by decide) rfl (fun ls hl => ?_)
          refine lv_aload_n hx hb dX2_see_45 rfl (lv_at hl 1 rfl) ?_
          refine ti_getr hx hb hts inlX2 hown hK hT ha0 rfl rfl rfl 1 (by decide) (hts _ kw_112) (fun _ h9 => h9) rfl dX2_see_46 (fun v46 hv46 hm46 => ?_)
          refine lv_iload hx hb dX2_see_49 (lv_at hl 6 rfl) ?_
          refine lv_iload hx hb dX2_see_51 (lv_at hl 0 rfl) ?_
          have J76 : ∀ (j76_S2 : Int32) (H : Heap) (locs : List Loc) (ls : Array Slot), iv j76_S2 (-2147483648) 2147483647 → TI D vwCl (tysOf c0) (RTg ν) Y H → va_S (pW Y [2, 29]) s.heap H locs → lv_has ls 7 [(0, .ref a0), (1, .ref a1), (2, .int x2), (3, .int x3), (4, .int x4), (5, .int j20_L5), (6, .int j43_S0)] → W p l e R s m ([.ref a0, .ref a1, .int x2, .int x3, .int x4] : List Value).toArray below meth c H locs 0 0 Q (F0 m 76 ls [.int j76_S2, .int j20_L5, .ref v46]) := by
            intro j76_S2 H locs ls hj76_S2 hT hS hl
            refine ti_iast hx hb (aT0 hK) hT hS hv46 rfl rfl hj20_L5_26l (by decide) (fun _ _ _ => ⟨_, _, rfl, by decide, by decide⟩) hj76_S2 (fun _ _ => trivial) dX2_see_76 (fun H locs hT hS oq76 he76 hk76 => ?_)
            obtain ⟨v77, e77⟩ : ∃ y : Int32, y = j20_L5 + 1 := ⟨_, rfl⟩
            have hv77 : iv v77 1 8 := by rw [e77]; exact iv_w (iv_add hj20_L5_26l (iv_c (x := (1 : Int32)) (k := 1) (by decide)) (by decide)) (by decide)
            have s77 : v77.toInt = j20_L5.toInt + 1 := by rw [e77, iv_addE hj20_L5_26l (iv_c (x := (1 : Int32)) (k := 1) (by decide)) (by decide)]; rfl
            refine lv_iinc (v := v77) (lv' := [(5, .int v77), (0, .ref a0), (1, .ref a1), (2, .int x2), (3, .int x3), (4, .int x4), (6, .int j43_S0)]) hx hb dX2_see_77 hl (k := 5) rfl (by rw [e77]; rfl) (by decide) rfl (fun ls hl => ?_)
            refine lv_goto (tgt := 20) hx hb dX2_see_80 (by decide) ?_
            exact ih20 v77 _ _ _ (ms_up hms20 (by have := s77; omega) (iv_w (c := 1) (d := 8) hv77 (by decide)).2) (iv_w hv77 (by decide)) hT hS (lv_sub hl [1, 2, 3, 4, 5, 0] rfl)
          refine lv_if_eq (tgt := 69) hx hb dX2_see_53 (by decide) (fun c53 => ?_) (fun c53 => ?_)
          · skip
            have kl0 : (0 : Int32).toInt = 0 := by decide
            have f53 := i_eq c53
            have hj43_S0_53l : iv j43_S0 0 0 := iv_eql hj43_S0 (iv_c (x := (0 : Int32)) (k := 0) (by decide)) c53 (by decide)
            refine lv_aload_n hx hb dX2_see_69 rfl (lv_at hl 2 rfl) ?_
            refine lv_iload_n hx hb dX2_see_70 rfl (lv_at hl 3 rfl) ?_
            refine lv_iload hx hb dX2_see_71 (lv_at hl 6 rfl) ?_
            refine ti_calli (va_runV (As := [.int x2, .int j20_L5]) (rest := [.int j20_L5, .ref v46]) ⟨hx, hb, hml, hown, hts⟩ (t_X7_seenBy l hT ha1 (iv_w hx2 (by decide)) (iv_w hj20_L5_26l (by decide))) (cwV 2 hts (good_V kw_877 kw_534 kw_535 kw_19 kw_536) rfl rfl rfl (by decide +kernel) ⟨by rw [hR]; decide, by rw [hR]; decide⟩) (ti_preV hK hT ha1 rfl rfl) rfl rfl hl.1 rfl (lv_room (Nat.le_of_ble_eq_true rfl)) dX2_see_73 ⟨Nat.zero_le _, Nat.zero_le _⟩) hS (pW_sub rfl) (fun v73 H1 locs hB hS _ hk73 => ?_)
            have hH := hB
            rw [hH] at hS ⊢
            exact J76 v73 _ _ _  (iv_w (iv_top v73) (by decide)) hT hS (lv_sub hl [1, 2, 3, 4, 5, 6, 0] rfl)
          · skip
            have kl0 : (0 : Int32).toInt = 0 := by decide
            have f53 := i_ne c53
            have hj43_S0_53l : iv j43_S0 1 1 := iv_nel hj43_S0 (iv_c (x := (0 : Int32)) (k := 0) (by decide)) c53 (by decide)
            refine lv_aload_n hx hb dX2_see_56 rfl (lv_at hl 2 rfl) ?_
            refine ti_getr hx hb hts inlX7 hown hK hT ha1 rfl rfl rfl 8 (by decide) (hts _ kw_875) (fun _ h9 => h9) rfl dX2_see_57 (fun v57 hv57 hm57 => ?_)
            refine lv_iload hx hb dX2_see_60 (lv_at hl 6 rfl) ?_
            refine ti_aald hx hb (aT6 hK) hT hv57 rfl hj20_L5_26l (by decide) (fun _ _ _ => rfl) dX2_see_62 (fun v62 hv62 => ?_)
            refine ti_calli (va_runV (As := []) (rest := [.int j20_L5, .ref v46]) ⟨hx, hb, hml, hown, hts⟩ (t_X3_shown l hT hv62) (cwV 0 hts (good_V kw_876 kw_538 kw_539 kw_68 kw_540) rfl rfl rfl (by decide +kernel) ⟨by rw [hR]; decide, by rw [hR]; decide⟩) (ti_preV hK hT hv62 rfl rfl) rfl rfl hl.1 rfl (lv_room (Nat.le_of_ble_eq_true rfl)) dX2_see_63 ⟨Nat.zero_le _, Nat.zero_le _⟩) hS (pW_sub rfl) (fun v63 H1 locs hB hS _ hk63 => ?_)
            have hH := hB
            rw [hH] at hS ⊢
            refine lv_goto (tgt := 76) hx hb dX2_see_66 (by decide) ?_
            exact J76 v63 _ _ _  (iv_w (iv_top v63) (by decide)) hT hS (lv_sub hl [1, 2, 3, 4, 5, 6, 0] rfl)
        refine lv_if_eq (tgt := 42) hx hb dX2_see_35 (by decide) (fun c35 => ?_) (fun c35 => ?_)
        · skip
          have kl0 : (0 : Int32).toInt = 0 := by decide
          have f35 := i_eq c35
          have hv34_35l : iv v34 0 0 := iv_eql hv34 (iv_c (x := (0 : Int32)) (k := 0) (by decide)) c35 (by decide)
          refine lv_iconst (v := 0) hx hb dX2_see_42 (by decide) ?_
          exact J43 (0 : Int32) _ _ _  (iv_w (iv_c (x := (0 : Int32)) (k := 0) (by decide)) (by decide)) hT hS (lv_sub hl [0, 1, 2, 3, 4, 5] rfl)
        · skip
          have kl0 : (0 : Int32).toInt = 0 := by decide
          have f35 := i_ne c35
          have hv34_35l : iv v34 1 1 := iv_nel hv34 (iv_c (x := (0 : Int32)) (k := 0) (by decide)) c35 (by decide)
          refine lv_iconst (v := 1) hx hb dX2_see_38 (by decide) ?_
          refine lv_goto (tgt := 43) hx hb dX2_see_39 (by decide) ?_
          exact J43 (1 : Int32) _ _ _  (iv_w (iv_c (x := (1 : Int32)) (k := 1) (by decide)) (by decide)) hT hS (lv_sub hl [0, 1, 2, 3, 4, 5] rfl)
  refine lv_istore (lv' := [(5, .int (0 : Int32)), (0, .ref a0), (1, .ref a1), (2, .int x2), (3, .int x3), (4, .int x4)]) hx hb dX2_see_18 hl (by decide) rfl (fun ls hl => ?_)
  exact J20 _ (0 : Int32) _ _ _ (Nat.lt_succ_self _) (iv_w (iv_c (x := (0 : Int32)) (k := 0) (by decide)) (by decide)) hT hS (lv_sub hl [1, 2, 3, 4, 5, 0] rfl)
set_option maxHeartbeats 4000000 in
set_option maxRecDepth 100000 in
theorem t_X4_look (l : Launch) {D : va_G} {c0 : Nat → ClassId} {Y : Nat → Option Nat} {ν : Nat → Nat} {H : Heap} (hT : TI D vwCl (tysOf c0) (RTg ν) Y H) {a0 : Nat} (ha0 : Y a0 = some 4) {a1 : Nat} (ha1 : Y a1 = some 0) : Met l yX4_look (wz yX4_look cX4_look 4 none) { frames := 0, cells := 0, slots := 0, locals := 0 } (TP D vwCl (tysOf c0) H [.ref a0, .ref a1]) (TQv (fun H' => TI D vwCl (tysOf c0) (RTg ν) Y H') Y [4]) 0 0 (pW Y [4]) := by
  refine Met.ofW (cc := cX4_look) (maxL := 4) (ret := none) (by decide) rfl ?_
  intro p e s m args below meth c s₁ B hml hv
  obtain ⟨rfl, rfl, hK⟩ := hv
  have hx := B.exec
  have hb := B.bytes
  have hr := B.returns
  have hts : ∀ w ∈ wq, w.before _ s = true := fun w h => atoms_spec (ws := wz yX4_look cX4_look 4 none) B.pre w (List.mem_cons_of_mem _ h)
  have hown : s.vm.findClass RX4 = some m.cls := findClass_of_methodNamed B.named
  have hlocks := B.notSynchronized
  obtain ⟨R, hR⟩ : ∃ R : Room, R = ({ frames := 0, cells := 0, slots := 0, locals := 0 } : Room) := ⟨_, rfl⟩
  rw [show (headSpec (wz yX4_look cX4_look 4 none) { frames := 0, cells := 0, slots := 0, locals := 0 }).room = R from hR.symm]
  refine ti_mv hx hb hr hlocks (fun Q ret => ?_)
  have hl := lv_entry [.ref a0, .ref a1] (n := 4) (Nat.le_of_ble_eq_true rfl)
  rw [lg_entry_eq]
  generalize (lg_sl [.ref a0, .ref a1] ++ List.replicate (4 - (lg_sl [.ref a0, .ref a1]).length) Slot.unset).toArray = ls at hl ⊢
  have hl : lv_has ls 4 [(0, .ref a0), (1, .ref a1)] := hl
  refine ti_gen (P := fun H => TI D vwCl (tysOf c0) (RTg ν) Y H) (Y := Y) (ws := [4]) hT (fun H locs hT hS => ?_)
  refine lv_aload_n hx hb dX4_look_0 rfl (lv_at hl 0 rfl) ?_
  refine lv_iconst (v := (-1)) hx hb dX4_look_1 (by decide) ?_
  refine ti_put (ty := .int) hx hb hts inlX4 tyX4 tyX4_ok nmX4 hown hK hT hS ha0 rfl rfl rfl rfl 5 (by decide) (hts _ kw_593) (fun _ h9 => h9) rfl rfl (by decide +kernel) rfl rfl ⟨(-1 : Int32), rfl, iv_w (iv_c (x := (-1 : Int32)) (k := (-1)) (by decide)) (by decide)⟩ (fun _ _ => trivial) dX4_look_2 (fun H locs hT hS oq2 he2 hk2 => ?_)
  refine lv_aload_n hx hb dX4_look_5 rfl (lv_at hl 0 rfl) ?_
  refine lv_iconst (v := 0) hx hb dX4_look_6 (by decide) ?_
  refine ti_put (ty := .int) hx hb hts inlX4 tyX4 tyX4_ok nmX4 hown hK hT hS ha0 rfl rfl rfl rfl 6 (by decide) (hts _ kw_594) (fun _ h9 => h9) rfl rfl (by decide +kernel) rfl rfl ⟨(0 : Int32), rfl, iv_w (iv_c (x := (0 : Int32)) (k := 0) (by decide)) (by decide)⟩ (fun _ _ => trivial) dX4_look_7 (fun H locs hT hS oq7 he7 hk7 => ?_)
  refine lv_iconst (v := 0) hx hb dX4_look_10 (by decide) ?_
  have J12 : ∀ (n : Nat) (j12_L2 : Int32) (H : Heap) (locs : List Loc) (ls : Array Slot), (8 - j12_L2.toInt).toNat < n → iv j12_L2 0 8 → TI D vwCl (tysOf c0) (RTg ν) Y H → va_S (pW Y [4]) s.heap H locs → lv_has ls 4 [(0, .ref a0), (1, .ref a1), (2, .int j12_L2)] → W p l e R s m ([.ref a0, .ref a1] : List Value).toArray below meth c H locs 0 0 Q (F0 m 12 ls []) := by
    intro n
    induction n with
    | zero => intro j12_L2 H locs ls hms; exact absurd hms (Nat.not_lt_zero _)
    | succ n ih12 =>
      intro j12_L2 H locs ls hms12 hj12_L2 hT hS hl
      refine lv_iload_n hx hb dX4_look_12 rfl (lv_at hl 2 rfl) ?_
      refine lv_aload_n hx hb dX4_look_13 rfl (lv_at hl 0 rfl) ?_
      refine ti_geti hx hb hts inlX4 hown hK hT ha0 rfl rfl rfl 0 (by decide) (hts _ kw_581) (fun _ h9 => h9) rfl dX4_look_14 (fun v14 hv14 hm14 => ?_)
      refine lv_icmp_ge (tgt := 133) hx hb dX4_look_17 (by decide) (fun c17 => ?_) (fun c17 => ?_)
      · skip
        have f17 := i_le c17
        refine lv_aload_n hx hb dX4_look_133 rfl (lv_at hl 0 rfl) ?_
        refine ti_geti hx hb hts inlX4 hown hK hT ha0 rfl rfl rfl 5 (by decide) (hts _ kw_593) (fun _ h9 => h9) rfl dX4_look_134 (fun v134 hv134 hm134 => ?_)
        refine lv_aload_n hx hb dX4_look_137 rfl (lv_at hl 0 rfl) ?_
        refine ti_geti hx hb hts inlX4 hown hK hT ha0 rfl rfl rfl 6 (by decide) (hts _ kw_594) (fun _ h9 => h9) rfl dX4_look_138 (fun v138 hv138 hm138 => ?_)
        refine lv_isub hx hb dX4_look_141 ?_
        refine lv_topi (fun v141 e141 => ?_)
        have hv141 : iv v141 (-2147483648) 2147483647 := iv_top _
        refine lv_aload_n hx hb dX4_look_142 rfl (lv_at hl 1 rfl) ?_
        refine ti_geti hx hb hts inlX0 hown hK hT ha1 rfl rfl rfl 0 (by decide) (hts _ kw_597) (fun _ h9 => h9) rfl dX4_look_143 (fun v143 hv143 hm143 => ?_)
        refine lv_isub hx hb dX4_look_146 ?_
        refine lv_topi (fun v146 e146 => ?_)
        have hv146 : iv v146 (-2147483648) 2147483647 := iv_top _
        refine lv_istore_n (lv' := [(2, .int v146), (0, .ref a0), (1, .ref a1)]) hx hb dX4_look_147 rfl hl (by decide) rfl (fun ls hl => ?_)
        refine lv_aload_n hx hb dX4_look_148 rfl (lv_at hl 1 rfl) ?_
        refine lv_aload_n hx hb dX4_look_149 rfl (lv_at hl 1 rfl) ?_
        refine ti_geti hx hb hts inlX4 hown hK hT ha0 rfl rfl rfl 8 (by decide) (hts _ kw_596) (fun _ h9 => h9) rfl dX4_look_150 (fun v150 hv150 hm150 => ?_)
        refine lv_aload_n hx hb dX4_look_153 rfl (lv_at hl 2 rfl) ?_
        refine ti_geti hx hb hts inlX0 hown hK hT ha1 rfl rfl rfl 1 (by decide) (hts _ kw_598) (fun _ h9 => h9) rfl dX4_look_154 (fun v154 hv154 hm154 => ?_)
        have J169 : ∀ (j169_S1 : Int32) (H : Heap) (locs : List Loc) (ls : Array Slot), iv j169_S1 0 2147483647 → TI D vwCl (tysOf c0) (RTg ν) Y H → va_S (pW Y [4]) s.heap H locs → lv_has ls 4 [(0, .ref a0), (1, .ref a1), (2, .int v146)] → W p l e R s m ([.ref a0, .ref a1] : List Value).toArray below meth c H locs 0 0 Q (F0 m 169 ls [.int j169_S1, .ref a0]) := by
          intro j169_S1 H locs ls hj169_S1 hT hS hl
          refine ti_put (ty := .int) hx hb hts inlX4 tyX4 tyX4_ok nmX4 hown hK hT hS ha0 rfl rfl rfl rfl 9 (by decide) (hts _ kw_599) (fun _ h9 => h9) rfl rfl (by decide +kernel) rfl rfl ⟨j169_S1, rfl, iv_w hj169_S1 (by decide)⟩ (fun _ _ => trivial) dX4_look_169 (fun H locs hT hS oq169 he169 hk169 => ?_)
          refine lv_aload_n hx hb dX4_look_172 rfl (lv_at hl 0 rfl) ?_
          refine lv_aload_n hx hb dX4_look_173 rfl (lv_at hl 0 rfl) ?_
          refine ti_getE (ci := 4) (v := .int j169_S1) hx hb hts inlX4 hown hK he169 rfl (by decide) (hts _ kw_599) (fun _ h9 => h9) dX4_look_174 ?_
          refine lv_aload_n hx hb dX4_look_177 rfl (lv_at hl 0 rfl) ?_
          refine ti_geti hx hb hts inlX4 hown hK hT ha0 rfl rfl rfl 8 (by decide) (hts _ kw_596) (fun _ h9 => h9) rfl dX4_look_178 (fun v178 hv178 hm178 => ?_)
          refine lv_imul hx hb dX4_look_181 ?_
          refine lv_topi (fun v181 e181 => ?_)
          have hv181 : iv v181 (-2147483648) 2147483647 := iv_top _
          refine ti_put (ty := .int) hx hb hts inlX4 tyX4 tyX4_ok nmX4 hown hK hT hS ha0 rfl rfl rfl rfl 10 (by decide) (hts _ kw_600) (fun _ h9 => h9) rfl rfl (by decide +kernel) rfl rfl ⟨v181, rfl, iv_w hv181 (by decide)⟩ (fun _ _ => trivial) dX4_look_182 (fun H locs hT hS oq182 he182 hk182 => ?_)
          exact ret _ _ _ _ dX4_look_185 (hT) hS
        have J168 : ∀  (H : Heap) (locs : List Loc) (ls : Array Slot), TI D vwCl (tysOf c0) (RTg ν) Y H → va_S (pW Y [4]) s.heap H locs → lv_has ls 4 [(0, .ref a0), (1, .ref a1), (2, .int v146)] → W p l e R s m ([.ref a0, .ref a1] : List Value).toArray below meth c H locs 0 0 Q (F0 m 168 ls [.ref a0]) := by
          intro  H locs ls  hT hS hl
          refine lv_iconst (v := 0) hx hb dX4_look_168 (by decide) ?_
          exact J169 (0 : Int32) _ _ _  (iv_w (iv_c (x := (0 : Int32)) (k := 0) (by decide)) (by decide)) hT hS (lv_sub hl [0, 1, 2] rfl)
        refine lv_icmp_ge (tgt := 168) hx hb dX4_look_157 (by decide) (fun c157 => ?_) (fun c157 => ?_)
        · skip
          have f157 := i_le c157
          exact J168  _ _ _   hT hS (lv_sub hl [1, 2, 0] rfl)
        · skip
          have f157 := i_nle c157
          have hv150_157l : iv v150 (-2147483648) 2147483646 := iv_ltl hv150 hv154 (Int32.not_le.mp c157) (by decide)
          have hv154_157r : iv v154 (-2147483647) 2147483647 := iv_ltr hv150_157l hv154 (Int32.not_le.mp c157) (by decide)
          refine lv_iload_n hx hb dX4_look_160 rfl (lv_at hl 0 rfl) ?_
          refine lv_if_le (tgt := 168) hx hb dX4_look_161 (by decide) (fun c161 => ?_) (fun c161 => ?_)
          · skip
            have kl0 : (0 : Int32).toInt = 0 := by decide
            have f161 := i_le c161
            have hv146_161l : iv v146 (-2147483648) 0 := iv_lel hv146 (iv_c (x := (0 : Int32)) (k := 0) (by decide)) c161 (by decide)
            exact J168  _ _ _   hT hS (lv_sub hl [1, 2, 0] rfl)
          · skip
            have kl0 : (0 : Int32).toInt = 0 := by decide
            have f161 := i_nle c161
            have hv146_161r : iv v146 1 2147483647 := iv_ltr (iv_c (x := (0 : Int32)) (k := 0) (by decide)) hv146 (Int32.not_le.mp c161) (by decide)
            refine lv_iload_n hx hb dX4_look_164 rfl (lv_at hl 0 rfl) ?_
            refine lv_goto (tgt := 169) hx hb dX4_look_165 (by decide) ?_
            exact J169 v146 _ _ _  (iv_w hv146_161r (by decide)) hT hS (lv_sub hl [1, 2, 0] rfl)
      · skip
        have f17 := i_nle c17
        have hj12_L2_17l : iv j12_L2 0 7 := iv_ltl hj12_L2 hv14 (Int32.not_le.mp c17) (by decide)
        have hv14_17r : iv v14 1 8 := iv_ltr hj12_L2_17l hv14 (Int32.not_le.mp c17) (by decide)
        refine lv_aload_n hx hb dX4_look_20 rfl (lv_at hl 0 rfl) ?_
        refine ti_getr hx hb hts inlX4 hown hK hT ha0 rfl rfl rfl 3 (by decide) (hts _ kw_105) (fun _ h9 => h9) rfl dX4_look_21 (fun v21 hv21 hm21 => ?_)
        refine lv_iload_n hx hb dX4_look_24 rfl (lv_at hl 2 rfl) ?_
        refine ti_iald (lo := (-2147483648)) (hi := 2147483647) hx hb (aT0 hK) hT hv21 rfl hj12_L2_17l (by decide) (fun _ _ _ => ⟨_, _, rfl, by decide, by decide⟩) dX4_look_25 (fun v25 hv25 hm25 => ?_)
        refine lv_aload_n hx hb dX4_look_26 rfl (lv_at hl 0 rfl) ?_
        refine ti_getr hx hb hts inlX4 hown hK hT ha0 rfl rfl rfl 4 (by decide) (hts _ kw_106) (fun _ h9 => h9) rfl dX4_look_27 (fun v27 hv27 hm27 => ?_)
        refine lv_iload_n hx hb dX4_look_30 rfl (lv_at hl 2 rfl) ?_
        refine ti_iald (lo := (-2147483648)) (hi := 2147483647) hx hb (aT0 hK) hT hv27 rfl hj12_L2_17l (by decide) (fun _ _ _ => ⟨_, _, rfl, by decide, by decide⟩) dX4_look_31 (fun v31 hv31 hm31 => ?_)
        refine lv_isub hx hb dX4_look_32 ?_
        refine lv_topi (fun v32 e32 => ?_)
        have hv32 : iv v32 (-2147483648) 2147483647 := iv_top _
        refine lv_istore_n (lv' := [(3, .int v32), (0, .ref a0), (1, .ref a1), (2, .int j12_L2)]) hx hb dX4_look_33 rfl hl (by decide) rfl (fun ls hl => ?_)
        refine lv_iload_n hx hb dX4_look_34 rfl (lv_at hl 0 rfl) ?_
        refine lv_aload_n hx hb dX4_look_35 rfl (lv_at hl 1 rfl) ?_
        refine ti_geti hx hb hts inlX4 hown hK hT ha0 rfl rfl rfl 5 (by decide) (hts _ kw_593) (fun _ h9 => h9) rfl dX4_look_36 (fun v36 hv36 hm36 => ?_)
        have J127 : ∀  (H : Heap) (locs : List Loc) (ls : Array Slot), TI D vwCl (tysOf c0) (RTg ν) Y H → va_S (pW Y [4]) s.heap H locs → lv_has ls 4 [(0, .ref a0), (1, .ref a1), (2, .int j12_L2), (3, .int v32)] → W p l e R s m ([.ref a0, .ref a1] : List Value).toArray below meth c H locs 0 0 Q (F0 m 127 ls []) := by
          intro  H locs ls  hT hS hl
          obtain ⟨v127, e127⟩ : ∃ y : Int32, y = j12_L2 + 1 := ⟨_, rfl⟩
          have hv127 : iv v127 1 8 := by rw [e127]; exact iv_w (iv_add hj12_L2_17l (iv_c (x := (1 : Int32)) (k := 1) (by decide)) (by decide)) (by decide)
          have s127 : v127.toInt = j12_L2.toInt + 1 := by rw [e127, iv_addE hj12_L2_17l (iv_c (x := (1 : Int32)) (k := 1) (by decide)) (by decide)]; rfl
          refine lv_iinc (v := v127) (lv' := [(2, .int v127), (0, .ref a0), (1, .ref a1), (3, .int v32)]) hx hb dX4_look_127 hl (k := 2) rfl (by rw [e127]; rfl) (by decide) rfl (fun ls hl => ?_)
          refine lv_goto (tgt := 12) hx hb dX4_look_130 (by decide) ?_
          exact ih12 v127 _ _ _ (ms_up hms12 (by have := s127; omega) (iv_w (c := 1) (d := 8) hv127 (by decide)).2) (iv_w hv127 (by decide)) hT hS (lv_sub hl [1, 2, 0] rfl)
        refine lv_icmp_le (tgt := 81) hx hb dX4_look_39 (by decide) (fun c39 => ?_) (fun c39 => ?_)
        · skip
          have f39 := i_le c39
          refine lv_iload_n hx hb dX4_look_81 rfl (lv_at hl 0 rfl) ?_
          refine lv_aload_n hx hb dX4_look_82 rfl (lv_at hl 1 rfl) ?_
          refine ti_getE (ci := 4) (v := .int v36) hx hb hts inlX4 hown hK hm36 rfl (by decide) (hts _ kw_593) (fun _ h9 => h9) dX4_look_83 ?_
          refine lv_icmp_ne (tgt := 114) hx hb dX4_look_86 (by decide) (fun c86 => ?_) (fun c86 => ?_)
          · skip
            have f86 := i_ne c86
            refine lv_iload_n hx hb dX4_look_114 rfl (lv_at hl 0 rfl) ?_
            refine lv_aload_n hx hb dX4_look_115 rfl (lv_at hl 1 rfl) ?_
            refine ti_geti hx hb hts inlX4 hown hK hT ha0 rfl rfl rfl 6 (by decide) (hts _ kw_594) (fun _ h9 => h9) rfl dX4_look_116 (fun v116 hv116 hm116 => ?_)
            refine lv_icmp_le (tgt := 127) hx hb dX4_look_119 (by decide) (fun c119 => ?_) (fun c119 => ?_)
            · skip
              have f119 := i_le c119
              exact J127  _ _ _   hT hS (lv_sub hl [1, 2, 3, 0] rfl)
            · skip
              have f119 := i_nle c119
              have hv116_119l : iv v116 (-2147483648) 2147483646 := iv_ltl hv116 hv32 (Int32.not_le.mp c119) (by decide)
              have hv32_119r : iv v32 (-2147483647) 2147483647 := iv_ltr hv116_119l hv32 (Int32.not_le.mp c119) (by decide)
              refine lv_aload_n hx hb dX4_look_122 rfl (lv_at hl 1 rfl) ?_
              refine lv_iload_n hx hb dX4_look_123 rfl (lv_at hl 0 rfl) ?_
              refine ti_put (ty := .int) hx hb hts inlX4 tyX4 tyX4_ok nmX4 hown hK hT hS ha0 rfl rfl rfl rfl 6 (by decide) (hts _ kw_594) (fun _ h9 => h9) rfl rfl (by decide +kernel) rfl rfl ⟨v32, rfl, iv_w hv32_119r (by decide)⟩ (fun _ _ => trivial) dX4_look_124 (fun H locs hT hS oq124 he124 hk124 => ?_)
              exact J127  _ _ _   hT hS (lv_sub hl [1, 2, 3, 0] rfl)
          · skip
            have f86 := i_eq c86
            refine lv_aload_n hx hb dX4_look_89 rfl (lv_at hl 1 rfl) ?_
            refine lv_dup hx hb dX4_look_90 rfl ?_
            refine ti_geti hx hb hts inlX4 hown hK hT ha0 rfl rfl rfl 7 (by decide) (hts _ kw_595) (fun _ h9 => h9) rfl dX4_look_91 (fun v91 hv91 hm91 => ?_)
            refine lv_iconst (v := 1) hx hb dX4_look_94 (by decide) ?_
            refine lv_iload_n hx hb dX4_look_95 rfl (lv_at hl 3 rfl) ?_
            refine lv_ishl hx hb dX4_look_96 ?_
            refine lv_topi (fun v96 e96 => ?_)
            have hv96 : iv v96 (-2147483648) 2147483647 := iv_top _
            refine lv_ior hx hb dX4_look_97 ?_
            refine lv_topi (fun v97 e97 => ?_)
            have hv97 : iv v97 (-2147483648) 2147483647 := iv_top _
            refine ti_put (ty := .int) hx hb hts inlX4 tyX4 tyX4_ok nmX4 hown hK hT hS ha0 rfl rfl rfl rfl 7 (by decide) (hts _ kw_595) (fun _ h9 => h9) rfl rfl (by decide +kernel) rfl rfl ⟨v97, rfl, iv_w hv97 (by decide)⟩ (fun _ _ => trivial) dX4_look_98 (fun H locs hT hS oq98 he98 hk98 => ?_)
            refine lv_aload_n hx hb dX4_look_101 rfl (lv_at hl 1 rfl) ?_
            refine lv_dup hx hb dX4_look_102 rfl ?_
            refine ti_geti hx hb hts inlX4 hown hK hT ha0 rfl rfl rfl 8 (by decide) (hts _ kw_596) (fun _ h9 => h9) rfl dX4_look_103 (fun v103 hv103 hm103 => ?_)
            refine lv_iconst (v := 1) hx hb dX4_look_106 (by decide) ?_
            refine lv_iadd hx hb dX4_look_107 ?_
            refine lv_topi (fun v107 e107 => ?_)
            have hv107 : iv v107 (-2147483648) 2147483647 := iv_top _
            refine ti_put (ty := .int) hx hb hts inlX4 tyX4 tyX4_ok nmX4 hown hK hT hS ha0 rfl rfl rfl rfl 8 (by decide) (hts _ kw_596) (fun _ h9 => h9) rfl rfl (by decide +kernel) rfl rfl ⟨v107, rfl, iv_w hv107 (by decide)⟩ (fun _ _ => trivial) dX4_look_108 (fun H locs hT hS oq108 he108 hk108 => ?_)
            refine lv_goto (tgt := 127) hx hb dX4_look_111 (by decide) ?_
            exact J127  _ _ _   hT hS (lv_sub hl [1, 2, 3, 0] rfl)
        · skip
          have f39 := i_nle c39
          have hv36_39l : iv v36 (-2147483648) 2147483646 := iv_ltl hv36 hv32 (Int32.not_le.mp c39) (by decide)
          have hv32_39r : iv v32 (-2147483647) 2147483647 := iv_ltr hv36_39l hv32 (Int32.not_le.mp c39) (by decide)
          refine lv_aload_n hx hb dX4_look_42 rfl (lv_at hl 1 rfl) ?_
          refine lv_aload_n hx hb dX4_look_43 rfl (lv_at hl 1 rfl) ?_
          refine ti_getE (ci := 4) (v := .int v36) hx hb hts inlX4 hown hK hm36 rfl (by decide) (hts _ kw_593) (fun _ h9 => h9) dX4_look_44 ?_
          have J58 : ∀ (j58_S1 : Int32) (H : Heap) (locs : List Loc) (ls : Array Slot), iv j58_S1 0 2147483646 → TI D vwCl (tysOf c0) (RTg ν) Y H → va_S (pW Y [4]) s.heap H locs → lv_has ls 4 [(0, .ref a0), (1, .ref a1), (2, .int j12_L2), (3, .int v32)] → W p l e R s m ([.ref a0, .ref a1] : List Value).toArray below meth c H locs 0 0 Q (F0 m 58 ls [.int j58_S1, .ref a0]) := by
            intro j58_S1 H locs ls hj58_S1 hT hS hl
            refine ti_put (ty := .int) hx hb hts inlX4 tyX4 tyX4_ok nmX4 hown hK hT hS ha0 rfl rfl rfl rfl 6 (by decide) (hts _ kw_594) (fun _ h9 => h9) rfl rfl (by decide +kernel) rfl rfl ⟨j58_S1, rfl, iv_w hj58_S1 (by decide)⟩ (fun _ _ => trivial) dX4_look_58 (fun H locs hT hS oq58 he58 hk58 => ?_)
            refine lv_aload_n hx hb dX4_look_61 rfl (lv_at hl 0 rfl) ?_
            refine lv_iload_n hx hb dX4_look_62 rfl (lv_at hl 3 rfl) ?_
            refine ti_put (ty := .int) hx hb hts inlX4 tyX4 tyX4_ok nmX4 hown hK hT hS ha0 rfl rfl rfl rfl 5 (by decide) (hts _ kw_593) (fun _ h9 => h9) rfl rfl (by decide +kernel) rfl rfl ⟨v32, rfl, iv_w hv32_39r (by decide)⟩ (fun _ _ => trivial) dX4_look_63 (fun H locs hT hS oq63 he63 hk63 => ?_)
            refine lv_aload_n hx hb dX4_look_66 rfl (lv_at hl 0 rfl) ?_
            refine lv_iconst (v := 1) hx hb dX4_look_67 (by decide) ?_
            refine lv_iload_n hx hb dX4_look_68 rfl (lv_at hl 2 rfl) ?_
            refine lv_ishl hx hb dX4_look_69 ?_
            refine lv_topi (fun v69 e69 => ?_)
            have hv69 : iv v69 (-2147483648) 2147483647 := iv_top _
            refine ti_put (ty := .int) hx hb hts inlX4 tyX4 tyX4_ok nmX4 hown hK hT hS ha0 rfl rfl rfl rfl 7 (by decide) (hts _ kw_595) (fun _ h9 => h9) rfl rfl (by decide +kernel) rfl rfl ⟨v69, rfl, iv_w hv69 (by decide)⟩ (fun _ _ => trivial) dX4_look_70 (fun H locs hT hS oq70 he70 hk70 => ?_)
            refine lv_aload_n hx hb dX4_look_73 rfl (lv_at hl 0 rfl) ?_
            refine lv_iconst (v := 1) hx hb dX4_look_74 (by decide) ?_
            refine ti_put (ty := .int) hx hb hts inlX4 tyX4 tyX4_ok nmX4 hown hK hT hS ha0 rfl rfl rfl rfl 8 (by decide) (hts _ kw_596) (fun _ h9 => h9) rfl rfl (by decide +kernel) rfl rfl ⟨(1 : Int32), rfl, iv_w (iv_c (x := (1 : Int32)) (k := 1) (by decide)) (by decide)⟩ (fun _ _ => trivial) dX4_look_75 (fun H locs hT hS oq75 he75 hk75 => ?_)
            refine lv_goto (tgt := 127) hx hb dX4_look_78 (by decide) ?_
            exact J127  _ _ _   hT hS (lv_sub hl [0, 1, 2, 3] rfl)
          refine lv_if_ge (tgt := 54) hx hb dX4_look_47 (by decide) (fun c47 => ?_) (fun c47 => ?_)
          · skip
            have kl0 : (0 : Int32).toInt = 0 := by decide
            have f47 := i_le c47
            have hv36_47r : iv v36 0 2147483646 := iv_ler (iv_c (x := (0 : Int32)) (k := 0) (by decide)) hv36_39l c47 (by decide)
            refine lv_aload_n hx hb dX4_look_54 rfl (lv_at hl 1 rfl) ?_
            refine ti_getE (ci := 4) (v := .int v36) hx hb hts inlX4 hown hK hm36 rfl (by decide) (hts _ kw_593) (fun _ h9 => h9) dX4_look_55 ?_
            exact J58 v36 _ _ _  (iv_w hv36_47r (by decide)) hT hS (lv_sub hl [1, 2, 3, 0] rfl)
          · skip
            have kl0 : (0 : Int32).toInt = 0 := by decide
            have f47 := i_nle c47
            have hv36_47l : iv v36 (-2147483648) (-1) := iv_ltl hv36_39l (iv_c (x := (0 : Int32)) (k := 0) (by decide)) (Int32.not_le.mp c47) (by decide)
            refine lv_iconst (v := 0) hx hb dX4_look_50 (by decide) ?_
            refine lv_goto (tgt := 58) hx hb dX4_look_51 (by decide) ?_
            exact J58 (0 : Int32) _ _ _  (iv_w (iv_c (x := (0 : Int32)) (k := 0) (by decide)) (by decide)) hT hS (lv_sub hl [1, 2, 3, 0] rfl)
  refine lv_istore_n (lv' := [(2, .int (0 : Int32)), (0, .ref a0), (1, .ref a1)]) hx hb dX4_look_11 rfl hl (by decide) rfl (fun ls hl => ?_)
  exact J12 _ (0 : Int32) _ _ _ (Nat.lt_succ_self _) (iv_w (iv_c (x := (0 : Int32)) (k := 0) (by decide)) (by decide)) hT hS (lv_sub hl [1, 2, 0] rfl)
set_option maxHeartbeats 4000000 in
set_option maxRecDepth 100000 in
theorem t_X4_raiseLeast (l : Launch) {D : va_G} {c0 : Nat → ClassId} {Y : Nat → Option Nat} {ν : Nat → Nat} {H : Heap} (hT : TI D vwCl (tysOf c0) (RTg ν) Y H) {a0 : Nat} (ha0 : Y a0 = some 4) : Met l yX4_raiseLeast (wz yX4_raiseLeast cX4_raiseLeast 8 none) { frames := 0, cells := 0, slots := 0, locals := 0 } (TP D vwCl (tysOf c0) H [.ref a0]) (TQv (fun H' => TI D vwCl (tysOf c0) (RTg ν) Y H') Y [4, 29]) 0 0 (pW Y [4, 29]) := by
  refine Met.ofW (cc := cX4_raiseLeast) (maxL := 8) (ret := none) (by decide) rfl ?_
  intro p e s m args below meth c s₁ B hml hv
  obtain ⟨rfl, rfl, hK⟩ := hv
  have hx := B.exec
  have hb := B.bytes
  have hr := B.returns
  have hts : ∀ w ∈ wq, w.before _ s = true := fun w h => atoms_spec (ws := wz yX4_raiseLeast cX4_raiseLeast 8 none) B.pre w (List.mem_cons_of_mem _ h)
  have hown : s.vm.findClass RX4 = some m.cls := findClass_of_methodNamed B.named
  have hlocks := B.notSynchronized
  obtain ⟨R, hR⟩ : ∃ R : Room, R = ({ frames := 0, cells := 0, slots := 0, locals := 0 } : Room) := ⟨_, rfl⟩
  rw [show (headSpec (wz yX4_raiseLeast cX4_raiseLeast 8 none) { frames := 0, cells := 0, slots := 0, locals := 0 }).room = R from hR.symm]
  refine ti_mv hx hb hr hlocks (fun Q ret => ?_)
  have hl := lv_entry [.ref a0] (n := 8) (Nat.le_of_ble_eq_true rfl)
  rw [lg_entry_eq]
  generalize (lg_sl [.ref a0] ++ List.replicate (8 - (lg_sl [.ref a0]).length) Slot.unset).toArray = ls at hl ⊢
  have hl : lv_has ls 8 [(0, .ref a0)] := hl
  refine ti_gen (P := fun H => TI D vwCl (tysOf c0) (RTg ν) Y H) (Y := Y) (ws := [4, 29]) hT (fun H locs hT hS => ?_)
  refine lv_aload_n hx hb dX4_raiseLeast_0 rfl (lv_at hl 0 rfl) ?_
  refine ti_geti hx hb hts inlX4 hown hK hT ha0 rfl rfl rfl 1 (by decide) (hts _ kw_583) (fun _ h9 => h9) rfl dX4_raiseLeast_1 (fun v1 hv1 hm1 => ?_)
  refine lv_iconst (v := 1) hx hb dX4_raiseLeast_4 (by decide) ?_
  refine lv_iadd hx hb dX4_raiseLeast_5 ?_
  refine lv_topi (fun v5 e5 => ?_)
  have hv5 : iv v5 (-2147483648) 2147483647 := iv_top _
  refine lv_istore_n (lv' := [(1, .int v5), (0, .ref a0)]) hx hb dX4_raiseLeast_6 rfl hl (by decide) rfl (fun ls hl => ?_)
  refine lv_iload_n hx hb dX4_raiseLeast_7 rfl (lv_at hl 0 rfl) ?_
  refine lv_istore_n (lv' := [(2, .int v5), (1, .int v5), (0, .ref a0)]) hx hb dX4_raiseLeast_8 rfl hl (by decide) rfl (fun ls hl => ?_)
  refine lv_iload_n hx hb dX4_raiseLeast_9 rfl (lv_at hl 1 rfl) ?_
  refine lv_istore_n (lv' := [(3, .int v5), (2, .int v5), (1, .int v5), (0, .ref a0)]) hx hb dX4_raiseLeast_10 rfl hl (by decide) rfl (fun ls hl => ?_)
  refine lv_iconst (v := 0) hx hb dX4_raiseLeast_11 (by decide) ?_
  refine lv_istore (lv' := [(4, .int (0 : Int32)), (3, .int v5), (2, .int v5), (1, .int v5), (0, .ref a0)]) hx hb dX4_raiseLeast_12 hl (by decide) rfl (fun ls hl => ?_)
  refine lv_iconst (v := 0) hx hb dX4_raiseLeast_14 (by decide) ?_
  refine lv_istore (lv' := [(5, .int (0 : Int32)), (4, .int (0 : Int32)), (3, .int v5), (2, .int v5), (1, .int v5), (0, .ref a0)]) hx hb dX4_raiseLeast_15 hl (by decide) rfl (fun ls hl => ?_)
  refine lv_iconst (v := 0) hx hb dX4_raiseLeast_17 (by decide) ?_
  have J20 : ∀ (n : Nat) (j20_L2 : Int32) (j20_L3 : Int32) (j20_L4 : Int32) (j20_L5 : Int32) (j20_L6 : Int32) (H : Heap) (locs : List Loc) (ls : Array Slot), (8 - j20_L6.toInt).toNat < n → iv j20_L2 (-2147483648) 2147483647 → iv j20_L3 (-2147483648) 2147483647 → iv j20_L4 0 7 → iv j20_L5 (-2147483648) 2147483647 → iv j20_L6 0 8 → TI D vwCl (tysOf c0) (RTg ν) Y H → va_S (pW Y [4, 29]) s.heap H locs → lv_has ls 8 [(0, .ref a0), (1, .int v5), (2, .int j20_L2), (3, .int j20_L3), (4, .int j20_L4), (5, .int j20_L5), (6, .int j20_L6)] → W p l e R s m ([.ref a0] : List Value).toArray below meth c H locs 0 0 Q (F0 m 20 ls []) := by
    intro n
    induction n with
    | zero => intro j20_L2 j20_L3 j20_L4 j20_L5 j20_L6 H locs ls hms; exact absurd hms (Nat.not_lt_zero _)
    | succ n ih20 =>
      intro j20_L2 j20_L3 j20_L4 j20_L5 j20_L6 H locs ls hms20 hj20_L2 hj20_L3 hj20_L4 hj20_L5 hj20_L6 hT hS hl
      refine lv_iload hx hb dX4_raiseLeast_20 (lv_at hl 6 rfl) ?_
      refine lv_aload_n hx hb dX4_raiseLeast_22 rfl (lv_at hl 0 rfl) ?_
      refine ti_geti hx hb hts inlX4 hown hK hT ha0 rfl rfl rfl 0 (by decide) (hts _ kw_581) (fun _ h9 => h9) rfl dX4_raiseLeast_23 (fun v23 hv23 hm23 => ?_)
      refine lv_icmp_ge (tgt := 94) hx hb dX4_raiseLeast_26 (by decide) (fun c26 => ?_) (fun c26 => ?_)
      · skip
        have f26 := i_le c26
        refine lv_iload hx hb dX4_raiseLeast_94 (lv_at hl 5 rfl) ?_
        refine lv_iconst (v := 1) hx hb dX4_raiseLeast_96 (by decide) ?_
        refine lv_icmp_ne (tgt := 179) hx hb dX4_raiseLeast_97 (by decide) (fun c97 => ?_) (fun c97 => ?_)
        · skip
          have kl1 : (1 : Int32).toInt = 1 := by decide
          have f97 := i_ne c97
          exact ret _ _ _ _ dX4_raiseLeast_179 (hT) hS
        · skip
          have kl1 : (1 : Int32).toInt = 1 := by decide
          have f97 := i_eq c97
          have hj20_L5_97l : iv j20_L5 1 1 := iv_eql hj20_L5 (iv_c (x := (1 : Int32)) (k := 1) (by decide)) c97 (by decide)
          refine lv_iload_n hx hb dX4_raiseLeast_100 rfl (lv_at hl 3 rfl) ?_
          refine lv_iload_n hx hb dX4_raiseLeast_101 rfl (lv_at hl 1 rfl) ?_
          refine lv_icmp_eq (tgt := 179) hx hb dX4_raiseLeast_102 (by decide) (fun c102 => ?_) (fun c102 => ?_)
          · skip
            have f102 := i_eq c102
            exact ret _ _ _ _ dX4_raiseLeast_179 (hT) hS
          · skip
            have f102 := i_ne c102
            refine lv_aload_n hx hb dX4_raiseLeast_105 rfl (lv_at hl 0 rfl) ?_
            refine ti_geti hx hb hts inlX4 hown hK hT ha0 rfl rfl rfl 2 (by decide) (hts _ kw_585) (fun _ h9 => h9) rfl dX4_raiseLeast_106 (fun v106 hv106 hm106 => ?_)
            refine lv_iload_n hx hb dX4_raiseLeast_109 rfl (lv_at hl 3 rfl) ?_
            refine lv_iload_n hx hb dX4_raiseLeast_110 rfl (lv_at hl 2 rfl) ?_
            refine lv_isub hx hb dX4_raiseLeast_111 ?_
            refine lv_topi (fun v111 e111 => ?_)
            have hv111 : iv v111 (-2147483648) 2147483647 := iv_top _
            have J125 : ∀ (j125_S0 : Int32) (H : Heap) (locs : List Loc) (ls : Array Slot), iv j125_S0 (-2147483648) 2147483647 → TI D vwCl (tysOf c0) (RTg ν) Y H → va_S (pW Y [4, 29]) s.heap H locs → lv_has ls 8 [(0, .ref a0), (1, .int v5), (2, .int j20_L2), (3, .int j20_L3), (4, .int j20_L4), (5, .int j20_L5), (6, .int j20_L6)] → W p l e R s m ([.ref a0] : List Value).toArray below meth c H locs 0 0 Q (F0 m 125 ls [.int j125_S0]) := by
              intro j125_S0 H locs ls hj125_S0 hT hS hl
              refine lv_istore (lv' := [(6, .int j125_S0), (0, .ref a0), (1, .int v5), (2, .int j20_L2), (3, .int j20_L3), (4, .int j20_L4), (5, .int j20_L5)]) hx hb dX4_raiseLeast_125 hl (by decide) rfl (fun ls hl => ?_)
              refine lv_aload_n hx hb dX4_raiseLeast_127 rfl (lv_at hl 1 rfl) ?_
              refine lv_dup hx hb dX4_raiseLeast_128 rfl ?_
              refine ti_geti hx hb hts inlX4 hown hK hT ha0 rfl rfl rfl 2 (by decide) (hts _ kw_585) (fun _ h9 => h9) rfl dX4_raiseLeast_129 (fun v129 hv129 hm129 => ?_)
              refine lv_iload hx hb dX4_raiseLeast_132 (lv_at hl 0 rfl) ?_
              refine lv_isub hx hb dX4_raiseLeast_134 ?_
              refine lv_topi (fun v134 e134 => ?_)
              have hv134 : iv v134 (-2147483648) 2147483647 := iv_top _
              refine ti_put (ty := .int) hx hb hts inlX4 tyX4 tyX4_ok nmX4 hown hK hT hS ha0 rfl rfl rfl rfl 2 (by decide) (hts _ kw_585) (fun _ h9 => h9) rfl rfl (by decide +kernel) rfl rfl ⟨v134, rfl, iv_w hv134 (by decide)⟩ (fun _ _ => trivial) dX4_raiseLeast_135 (fun H locs hT hS oq135 he135 hk135 => ?_)
              refine lv_aload_n hx hb dX4_raiseLeast_138 rfl (lv_at hl 1 rfl) ?_
              refine ti_getr hx hb hts inlX4 hown hK hT ha0 rfl rfl rfl 3 (by decide) (hts _ kw_105) (fun _ h9 => h9) rfl dX4_raiseLeast_139 (fun v139 hv139 hm139 => ?_)
              refine lv_iload hx hb dX4_raiseLeast_142 (lv_at hl 5 rfl) ?_
              refine lv_iload hx hb dX4_raiseLeast_144 (lv_at hl 0 rfl) ?_
              refine lv_aload_n hx hb dX4_raiseLeast_146 rfl (lv_at hl 1 rfl) ?_
              refine ti_geti hx hb hts inlX4 hown hK hT ha0 rfl rfl rfl 1 (by decide) (hts _ kw_583) (fun _ h9 => h9) rfl dX4_raiseLeast_147 (fun v147 hv147 hm147 => ?_)
              refine lv_aload_n hx hb dX4_raiseLeast_150 rfl (lv_at hl 1 rfl) ?_
              refine ti_getE (ci := 4) (v := .ref v139) hx hb hts inlX4 hown hK hm139 rfl (by decide) (hts _ kw_105) (fun _ h9 => h9) dX4_raiseLeast_151 ?_
              refine lv_iload hx hb dX4_raiseLeast_154 (lv_at hl 5 rfl) ?_
              refine ti_iald (lo := (-2147483648)) (hi := 2147483647) hx hb (aT0 hK) hT hv139 rfl hj20_L4 (by decide) (fun _ _ _ => ⟨_, _, rfl, by decide, by decide⟩) dX4_raiseLeast_156 (fun v156 hv156 hm156 => ?_)
              refine lv_isub hx hb dX4_raiseLeast_157 ?_
              refine lv_topi (fun v157 e157 => ?_)
              have hv157 : iv v157 (-2147483648) 2147483647 := iv_top _
              have J178 : ∀ (j178_S2 : Int32) (H : Heap) (locs : List Loc) (ls : Array Slot), iv j178_S2 (-2147483648) 2147483647 → TI D vwCl (tysOf c0) (RTg ν) Y H → va_S (pW Y [4, 29]) s.heap H locs → lv_has ls 8 [(0, .ref a0), (1, .int v5), (2, .int j20_L2), (3, .int j20_L3), (4, .int j20_L4), (5, .int j20_L5), (6, .int j125_S0)] → W p l e R s m ([.ref a0] : List Value).toArray below meth c H locs 0 0 Q (F0 m 178 ls [.int j178_S2, .int j20_L4, .ref v139]) := by
                intro j178_S2 H locs ls hj178_S2 hT hS hl
                refine ti_iast hx hb (aT0 hK) hT hS hv139 rfl rfl hj20_L4 (by decide) (fun _ _ _ => ⟨_, _, rfl, by decide, by decide⟩) hj178_S2 (fun _ _ => trivial) dX4_raiseLeast_178 (fun H locs hT hS oq178 he178 hk178 => ?_)
                exact ret _ _ _ _ dX4_raiseLeast_179 (hT) hS
              refine lv_icmp_le (tgt := 168) hx hb dX4_raiseLeast_158 (by decide) (fun c158 => ?_) (fun c158 => ?_)
              · skip
                have f158 := i_le c158
                refine lv_aload_n hx hb dX4_raiseLeast_168 rfl (lv_at hl 1 rfl) ?_
                refine ti_getE (ci := 4) (v := .ref v139) hx hb hts inlX4 hown hK hm139 rfl (by decide) (hts _ kw_105) (fun _ h9 => h9) dX4_raiseLeast_169 ?_
                refine lv_iload hx hb dX4_raiseLeast_172 (lv_at hl 5 rfl) ?_
                refine ti_ialdE (v := .int v156) hx hb (aT0 hK) hT hv139 rfl hj20_L4 (by decide) (hm156) dX4_raiseLeast_174 ?_
                refine lv_iload hx hb dX4_raiseLeast_175 (lv_at hl 0 rfl) ?_
                refine lv_iadd hx hb dX4_raiseLeast_177 ?_
                refine lv_topi (fun v177 e177 => ?_)
                have hv177 : iv v177 (-2147483648) 2147483647 := iv_top _
                exact J178 v177 _ _ _  (iv_w hv177 (by decide)) hT hS (lv_sub hl [1, 2, 3, 4, 5, 6, 0] rfl)
              · skip
                have f158 := i_nle c158
                have hv157_158l : iv v157 (-2147483648) 2147483646 := iv_ltl hv157 hj125_S0 (Int32.not_le.mp c158) (by decide)
                have hj125_S0_158r : iv j125_S0 (-2147483647) 2147483647 := iv_ltr hv157_158l hj125_S0 (Int32.not_le.mp c158) (by decide)
                refine lv_aload_n hx hb dX4_raiseLeast_161 rfl (lv_at hl 1 rfl) ?_
                refine ti_getE (ci := 4) (v := .int v147) hx hb hts inlX4 hown hK hm147 rfl (by decide) (hts _ kw_583) (fun _ h9 => h9) dX4_raiseLeast_162 ?_
                refine lv_goto (tgt := 178) hx hb dX4_raiseLeast_165 (by decide) ?_
                exact J178 v147 _ _ _  (iv_w hv147 (by decide)) hT hS (lv_sub hl [1, 2, 3, 4, 5, 6, 0] rfl)
            refine lv_icmp_ge (tgt := 122) hx hb dX4_raiseLeast_112 (by decide) (fun c112 => ?_) (fun c112 => ?_)
            · skip
              have f112 := i_le c112
              refine lv_iload_n hx hb dX4_raiseLeast_122 rfl (lv_at hl 3 rfl) ?_
              refine lv_iload_n hx hb dX4_raiseLeast_123 rfl (lv_at hl 2 rfl) ?_
              refine lv_isub hx hb dX4_raiseLeast_124 ?_
              refine lv_topi (fun v124 e124 => ?_)
              have hv124 : iv v124 (-2147483648) 2147483647 := iv_top _
              exact J125 v124 _ _ _  (iv_w hv124 (by decide)) hT hS (lv_sub hl [0, 1, 2, 3, 4, 5, 6] rfl)
            · skip
              have f112 := i_nle c112
              have hv106_112l : iv v106 (-2147483648) 2147483646 := iv_ltl hv106 hv111 (Int32.not_le.mp c112) (by decide)
              have hv111_112r : iv v111 (-2147483647) 2147483647 := iv_ltr hv106_112l hv111 (Int32.not_le.mp c112) (by decide)
              refine lv_aload_n hx hb dX4_raiseLeast_115 rfl (lv_at hl 0 rfl) ?_
              refine ti_getE (ci := 4) (v := .int v106) hx hb hts inlX4 hown hK hm106 rfl (by decide) (hts _ kw_585) (fun _ h9 => h9) dX4_raiseLeast_116 ?_
              refine lv_goto (tgt := 125) hx hb dX4_raiseLeast_119 (by decide) ?_
              exact J125 v106 _ _ _  (iv_w hv106_112l (by decide)) hT hS (lv_sub hl [0, 1, 2, 3, 4, 5, 6] rfl)
      · skip
        have f26 := i_nle c26
        have hj20_L6_26l : iv j20_L6 0 7 := iv_ltl hj20_L6 hv23 (Int32.not_le.mp c26) (by decide)
        have hv23_26r : iv v23 1 8 := iv_ltr hj20_L6_26l hv23 (Int32.not_le.mp c26) (by decide)
        refine lv_aload_n hx hb dX4_raiseLeast_29 rfl (lv_at hl 0 rfl) ?_
        refine ti_getr hx hb hts inlX4 hown hK hT ha0 rfl rfl rfl 3 (by decide) (hts _ kw_105) (fun _ h9 => h9) rfl dX4_raiseLeast_30 (fun v30 hv30 hm30 => ?_)
        refine lv_iload hx hb dX4_raiseLeast_33 (lv_at hl 6 rfl) ?_
        refine ti_iald (lo := (-2147483648)) (hi := 2147483647) hx hb (aT0 hK) hT hv30 rfl hj20_L6_26l (by decide) (fun _ _ _ => ⟨_, _, rfl, by decide, by decide⟩) dX4_raiseLeast_35 (fun v35 hv35 hm35 => ?_)
        refine lv_aload_n hx hb dX4_raiseLeast_36 rfl (lv_at hl 0 rfl) ?_
        refine ti_getr hx hb hts inlX4 hown hK hT ha0 rfl rfl rfl 4 (by decide) (hts _ kw_106) (fun _ h9 => h9) rfl dX4_raiseLeast_37 (fun v37 hv37 hm37 => ?_)
        refine lv_iload hx hb dX4_raiseLeast_40 (lv_at hl 6 rfl) ?_
        refine ti_iald (lo := (-2147483648)) (hi := 2147483647) hx hb (aT0 hK) hT hv37 rfl hj20_L6_26l (by decide) (fun _ _ _ => ⟨_, _, rfl, by decide, by decide⟩) dX4_raiseLeast_42 (fun v42 hv42 hm42 => ?_)
        refine lv_isub hx hb dX4_raiseLeast_43 ?_
        refine lv_topi (fun v43 e43 => ?_)
        have hv43 : iv v43 (-2147483648) 2147483647 := iv_top _
        refine lv_istore (lv' := [(7, .int v43), (0, .ref a0), (1, .int v5), (2, .int j20_L2), (3, .int j20_L3), (4, .int j20_L4), (5, .int j20_L5), (6, .int j20_L6)]) hx hb dX4_raiseLeast_44 hl (by decide) rfl (fun ls hl => ?_)
        refine lv_iload hx hb dX4_raiseLeast_46 (lv_at hl 0 rfl) ?_
        refine lv_iload_n hx hb dX4_raiseLeast_48 rfl (lv_at hl 3 rfl) ?_
        have J88 : ∀ (j88_L2 : Int32) (j88_L3 : Int32) (j88_L4 : Int32) (j88_L5 : Int32) (H : Heap) (locs : List Loc) (ls : Array Slot), iv j88_L2 (-2147483648) 2147483647 → iv j88_L3 (-2147483648) 2147483647 → iv j88_L4 0 7 → iv j88_L5 (-2147483648) 2147483647 → TI D vwCl (tysOf c0) (RTg ν) Y H → va_S (pW Y [4, 29]) s.heap H locs → lv_has ls 8 [(0, .ref a0), (1, .int v5), (2, .int j88_L2), (3, .int j88_L3), (4, .int j88_L4), (5, .int j88_L5), (6, .int j20_L6), (7, .int v43)] → W p l e R s m ([.ref a0] : List Value).toArray below meth c H locs 0 0 Q (F0 m 88 ls []) := by
          intro j88_L2 j88_L3 j88_L4 j88_L5 H locs ls hj88_L2 hj88_L3 hj88_L4 hj88_L5 hT hS hl
          obtain ⟨v88, e88⟩ : ∃ y : Int32, y = j20_L6 + 1 := ⟨_, rfl⟩
          have hv88 : iv v88 1 8 := by rw [e88]; exact iv_w (iv_add hj20_L6_26l (iv_c (x := (1 : Int32)) (k := 1) (by decide)) (by decide)) (by decide)
          have s88 : v88.toInt = j20_L6.toInt + 1 := by rw [e88, iv_addE hj20_L6_26l (iv_c (x := (1 : Int32)) (k := 1) (by decide)) (by decide)]; rfl
          refine lv_iinc (v := v88) (lv' := [(6, .int v88), (0, .ref a0), (1, .int v5), (2, .int j88_L2), (3, .int j88_L3), (4, .int j88_L4), (5, .int j88_L5), (7, .int v43)]) hx hb dX4_raiseLeast_88 hl (k := 6) rfl (by rw [e88]; rfl) (by decide) rfl (fun ls hl => ?_)
          refine lv_goto (tgt := 20) hx hb dX4_raiseLeast_91 (by decide) ?_
          exact ih20 j88_L2 j88_L3 j88_L4 j88_L5 v88 _ _ _ (ms_up hms20 (by have := s88; omega) (iv_w (c := 1) (d := 8) hv88 (by decide)).2) (iv_w hj88_L2 (by decide)) (iv_w hj88_L3 (by decide)) (iv_w hj88_L4 (by decide)) (iv_w hj88_L5 (by decide)) (iv_w hv88 (by decide)) hT hS (lv_sub hl [1, 2, 3, 4, 5, 6, 0] rfl)
        refine lv_icmp_ge (tgt := 67) hx hb dX4_raiseLeast_49 (by decide) (fun c49 => ?_) (fun c49 => ?_)
        · skip
          have f49 := i_le c49
          refine lv_iload hx hb dX4_raiseLeast_67 (lv_at hl 0 rfl) ?_
          refine lv_iload_n hx hb dX4_raiseLeast_69 rfl (lv_at hl 3 rfl) ?_
          refine lv_icmp_ne (tgt := 79) hx hb dX4_raiseLeast_70 (by decide) (fun c70 => ?_) (fun c70 => ?_)
          · skip
            have f70 := i_ne c70
            refine lv_iload hx hb dX4_raiseLeast_79 (lv_at hl 0 rfl) ?_
            refine lv_iload_n hx hb dX4_raiseLeast_81 rfl (lv_at hl 4 rfl) ?_
            refine lv_icmp_ge (tgt := 88) hx hb dX4_raiseLeast_82 (by decide) (fun c82 => ?_) (fun c82 => ?_)
            · skip
              have f82 := i_le c82
              exact J88 j20_L2 j20_L3 j20_L4 j20_L5 _ _ _  (iv_w hj20_L2 (by decide)) (iv_w hj20_L3 (by decide)) (iv_w hj20_L4 (by decide)) (iv_w hj20_L5 (by decide)) hT hS (lv_sub hl [1, 2, 3, 4, 5, 6, 7, 0] rfl)
            · skip
              have f82 := i_nle c82
              have hv43_82l : iv v43 (-2147483648) 2147483646 := iv_ltl hv43 hj20_L3 (Int32.not_le.mp c82) (by decide)
              have hj20_L3_82r : iv j20_L3 (-2147483647) 2147483647 := iv_ltr hv43_82l hj20_L3 (Int32.not_le.mp c82) (by decide)
              refine lv_iload hx hb dX4_raiseLeast_85 (lv_at hl 0 rfl) ?_
              refine lv_istore_n (lv' := [(3, .int v43), (7, .int v43), (0, .ref a0), (1, .int v5), (2, .int j20_L2), (4, .int j20_L4), (5, .int j20_L5), (6, .int j20_L6)]) hx hb dX4_raiseLeast_87 rfl hl (by decide) rfl (fun ls hl => ?_)
              exact J88 j20_L2 v43 j20_L4 j20_L5 _ _ _  (iv_w hj20_L2 (by decide)) (iv_w hv43_82l (by decide)) (iv_w hj20_L4 (by decide)) (iv_w hj20_L5 (by decide)) hT hS (lv_sub hl [2, 3, 4, 0, 5, 6, 7, 1] rfl)
          · skip
            have f70 := i_eq c70
            obtain ⟨v73, e73⟩ : ∃ y : Int32, y = j20_L5 + 1 := ⟨_, rfl⟩
            have hv73 : iv v73 (-2147483648) 2147483647 := iv_top _
            refine lv_iinc (v := v73) (lv' := [(5, .int v73), (7, .int v43), (0, .ref a0), (1, .int v5), (2, .int j20_L2), (3, .int j20_L3), (4, .int j20_L4), (6, .int j20_L6)]) hx hb dX4_raiseLeast_73 hl (k := 6) rfl (by rw [e73]; rfl) (by decide) rfl (fun ls hl => ?_)
            refine lv_goto (tgt := 88) hx hb dX4_raiseLeast_76 (by decide) ?_
            exact J88 j20_L2 j20_L3 j20_L4 v73 _ _ _  (iv_w hj20_L2 (by decide)) (iv_w hj20_L3 (by decide)) (iv_w hj20_L4 (by decide)) (iv_w hv73 (by decide)) hT hS (lv_sub hl [2, 3, 4, 5, 6, 0, 7, 1] rfl)
        · skip
          have f49 := i_nle c49
          have hv43_49l : iv v43 (-2147483648) 2147483646 := iv_ltl hv43 hj20_L2 (Int32.not_le.mp c49) (by decide)
          have hj20_L2_49r : iv j20_L2 (-2147483647) 2147483647 := iv_ltr hv43_49l hj20_L2 (Int32.not_le.mp c49) (by decide)
          refine lv_iload_n hx hb dX4_raiseLeast_52 rfl (lv_at hl 3 rfl) ?_
          refine lv_istore_n (lv' := [(3, .int j20_L2), (7, .int v43), (0, .ref a0), (1, .int v5), (2, .int j20_L2), (4, .int j20_L4), (5, .int j20_L5), (6, .int j20_L6)]) hx hb dX4_raiseLeast_53 rfl hl (by decide) rfl (fun ls hl => ?_)
          refine lv_iload hx hb dX4_raiseLeast_54 (lv_at hl 1 rfl) ?_
          refine lv_istore_n (lv' := [(2, .int v43), (3, .int j20_L2), (7, .int v43), (0, .ref a0), (1, .int v5), (4, .int j20_L4), (5, .int j20_L5), (6, .int j20_L6)]) hx hb dX4_raiseLeast_56 rfl hl (by decide) rfl (fun ls hl => ?_)
          refine lv_iload hx hb dX4_raiseLeast_57 (lv_at hl 7 rfl) ?_
          refine lv_istore (lv' := [(4, .int j20_L6), (2, .int v43), (3, .int j20_L2), (7, .int v43), (0, .ref a0), (1, .int v5), (5, .int j20_L5), (6, .int j20_L6)]) hx hb dX4_raiseLeast_59 hl (by decide) rfl (fun ls hl => ?_)
          refine lv_iconst (v := 1) hx hb dX4_raiseLeast_61 (by decide) ?_
          refine lv_istore (lv' := [(5, .int (1 : Int32)), (4, .int j20_L6), (2, .int v43), (3, .int j20_L2), (7, .int v43), (0, .ref a0), (1, .int v5), (6, .int j20_L6)]) hx hb dX4_raiseLeast_62 hl (by decide) rfl (fun ls hl => ?_)
          refine lv_goto (tgt := 88) hx hb dX4_raiseLeast_64 (by decide) ?_
          exact J88 v43 j20_L2 j20_L6 (1 : Int32) _ _ _  (iv_w hv43_49l (by decide)) (iv_w hj20_L2_49r (by decide)) (iv_w hj20_L6_26l (by decide)) (iv_w (iv_c (x := (1 : Int32)) (k := 1) (by decide)) (by decide)) hT hS (lv_sub hl [5, 6, 2, 3, 1, 0, 7, 4] rfl)
  refine lv_istore (lv' := [(6, .int (0 : Int32)), (5, .int (0 : Int32)), (4, .int (0 : Int32)), (3, .int v5), (2, .int v5), (1, .int v5), (0, .ref a0)]) hx hb dX4_raiseLeast_18 hl (by decide) rfl (fun ls hl => ?_)
  exact J20 _ v5 v5 (0 : Int32) (0 : Int32) (0 : Int32) _ _ _ (Nat.lt_succ_self _) (iv_w hv5 (by decide)) (iv_w hv5 (by decide)) (iv_w (iv_c (x := (0 : Int32)) (k := 0) (by decide)) (by decide)) (iv_w (iv_c (x := (0 : Int32)) (k := 0) (by decide)) (by decide)) (iv_w (iv_c (x := (0 : Int32)) (k := 0) (by decide)) (by decide)) hT hS (lv_sub hl [6, 5, 4, 3, 2, 1, 0] rfl)
set_option maxHeartbeats 4000000 in
set_option maxRecDepth 100000 in
theorem t_X4_takeLost (l : Launch) {D : va_G} {c0 : Nat → ClassId} {Y : Nat → Option Nat} {ν : Nat → Nat} {H : Heap} (hT : TI D vwCl (tysOf c0) (RTg ν) Y H) {a0 : Nat} (ha0 : Y a0 = some 4) {x1 : Int32} (hx1 : iv x1 (-2147483648) 2147483647) : Met l yX4_takeLost (wz yX4_takeLost cX4_takeLost 6 none) { frames := 0, cells := 0, slots := 0, locals := 0 } (TP D vwCl (tysOf c0) H [.ref a0, .int x1]) (TQv (fun H' => TI D vwCl (tysOf c0) (RTg ν) Y H') Y [4, 29]) 0 0 (pW Y [4, 29]) := by
  refine Met.ofW (cc := cX4_takeLost) (maxL := 6) (ret := none) (by decide) rfl ?_
  intro p e s m args below meth c s₁ B hml hv
  obtain ⟨rfl, rfl, hK⟩ := hv
  have hx := B.exec
  have hb := B.bytes
  have hr := B.returns
  have hts : ∀ w ∈ wq, w.before _ s = true := fun w h => atoms_spec (ws := wz yX4_takeLost cX4_takeLost 6 none) B.pre w (List.mem_cons_of_mem _ h)
  have hown : s.vm.findClass RX4 = some m.cls := findClass_of_methodNamed B.named
  have hlocks := B.notSynchronized
  obtain ⟨R, hR⟩ : ∃ R : Room, R = ({ frames := 0, cells := 0, slots := 0, locals := 0 } : Room) := ⟨_, rfl⟩
  rw [show (headSpec (wz yX4_takeLost cX4_takeLost 6 none) { frames := 0, cells := 0, slots := 0, locals := 0 }).room = R from hR.symm]
  refine ti_mv hx hb hr hlocks (fun Q ret => ?_)
  have hl := lv_entry [.ref a0, .int x1] (n := 6) (Nat.le_of_ble_eq_true rfl)
  rw [lg_entry_eq]
  generalize (lg_sl [.ref a0, .int x1] ++ List.replicate (6 - (lg_sl [.ref a0, .int x1]).length) Slot.unset).toArray = ls at hl ⊢
  have hl : lv_has ls 6 [(0, .ref a0), (1, .int x1)] := hl
  refine ti_gen (P := fun H => TI D vwCl (tysOf c0) (RTg ν) Y H) (Y := Y) (ws := [4, 29]) hT (fun H locs hT hS => ?_)
  refine lv_aload_n hx hb dX4_takeLost_0 rfl (lv_at hl 0 rfl) ?_
  refine ti_geti hx hb hts inlX4 hown hK hT ha0 rfl rfl rfl 0 (by decide) (hts _ kw_581) (fun _ h9 => h9) rfl dX4_takeLost_1 (fun v1 hv1 hm1 => ?_)
  refine lv_aload_n hx hb dX4_takeLost_4 rfl (lv_at hl 0 rfl) ?_
  refine ti_geti hx hb hts inlX4 hown hK hT ha0 rfl rfl rfl 8 (by decide) (hts _ kw_596) (fun _ h9 => h9) rfl dX4_takeLost_5 (fun v5 hv5 hm5 => ?_)
  refine lv_isub hx hb dX4_takeLost_8 ?_
  refine lv_topi (fun v8 e8 => ?_)
  have hv8 : iv v8 (-2147483648) 2147483647 := iv_top _
  refine lv_istore_n (lv' := [(2, .int v8), (0, .ref a0), (1, .int x1)]) hx hb dX4_takeLost_9 rfl hl (by decide) rfl (fun ls hl => ?_)
  refine lv_iload_n hx hb dX4_takeLost_10 rfl (lv_at hl 2 rfl) ?_
  refine lv_iconst (v := 1) hx hb dX4_takeLost_11 (by decide) ?_
  have J29 : ∀ (j29_S0 : Int32) (H : Heap) (locs : List Loc) (ls : Array Slot), iv j29_S0 (-2147483648) 2147483647 → TI D vwCl (tysOf c0) (RTg ν) Y H → va_S (pW Y [4, 29]) s.heap H locs → lv_has ls 6 [(0, .ref a0), (1, .int x1), (2, .int v8)] → W p l e R s m ([.ref a0, .int x1] : List Value).toArray below meth c H locs 0 0 Q (F0 m 29 ls [.int j29_S0]) := by
    intro j29_S0 H locs ls hj29_S0 hT hS hl
    refine lv_istore_n (lv' := [(3, .int j29_S0), (0, .ref a0), (1, .int x1), (2, .int v8)]) hx hb dX4_takeLost_29 rfl hl (by decide) rfl (fun ls hl => ?_)
    refine lv_iconst (v := 0) hx hb dX4_takeLost_30 (by decide) ?_
    have J33 : ∀ (n : Nat) (j33_L4 : Int32) (H : Heap) (locs : List Loc) (ls : Array Slot), (8 - j33_L4.toInt).toNat < n → iv j33_L4 0 8 → TI D vwCl (tysOf c0) (RTg ν) Y H → va_S (pW Y [4, 29]) s.heap H locs → lv_has ls 6 [(0, .ref a0), (1, .int x1), (2, .int v8), (3, .int j29_S0), (4, .int j33_L4)] → W p l e R s m ([.ref a0, .int x1] : List Value).toArray below meth c H locs 0 0 Q (F0 m 33 ls []) := by
      intro n
      induction n with
      | zero => intro j33_L4 H locs ls hms; exact absurd hms (Nat.not_lt_zero _)
      | succ n ih33 =>
        intro j33_L4 H locs ls hms33 hj33_L4 hT hS hl
        refine lv_iload hx hb dX4_takeLost_33 (lv_at hl 4 rfl) ?_
        refine lv_aload_n hx hb dX4_takeLost_35 rfl (lv_at hl 0 rfl) ?_
        refine ti_geti hx hb hts inlX4 hown hK hT ha0 rfl rfl rfl 0 (by decide) (hts _ kw_581) (fun _ h9 => h9) rfl dX4_takeLost_36 (fun v36 hv36 hm36 => ?_)
        refine lv_icmp_ge (tgt := 112) hx hb dX4_takeLost_39 (by decide) (fun c39 => ?_) (fun c39 => ?_)
        · skip
          have f39 := i_le c39
          refine lv_iload_n hx hb dX4_takeLost_112 rfl (lv_at hl 1 rfl) ?_
          refine lv_iconst (v := 2) hx hb dX4_takeLost_113 (by decide) ?_
          refine lv_icmp_eq (tgt := 134) hx hb dX4_takeLost_114 (by decide) (fun c114 => ?_) (fun c114 => ?_)
          · skip
            have kl2 : (2 : Int32).toInt = 2 := by decide
            have f114 := i_eq c114
            have hx1_114l : iv x1 2 2 := iv_eql hx1 (iv_c (x := (2 : Int32)) (k := 2) (by decide)) c114 (by decide)
            exact ret _ _ _ _ dX4_takeLost_134 (hT) hS
          · skip
            have kl2 : (2 : Int32).toInt = 2 := by decide
            have f114 := i_ne c114
            refine lv_aload_n hx hb dX4_takeLost_117 rfl (lv_at hl 0 rfl) ?_
            refine lv_dup hx hb dX4_takeLost_118 rfl ?_
            refine ti_geti hx hb hts inlX4 hown hK hT ha0 rfl rfl rfl 2 (by decide) (hts _ kw_585) (fun _ h9 => h9) rfl dX4_takeLost_119 (fun v119 hv119 hm119 => ?_)
            refine lv_aload_n hx hb dX4_takeLost_122 rfl (lv_at hl 0 rfl) ?_
            refine ti_geti hx hb hts inlX4 hown hK hT ha0 rfl rfl rfl 10 (by decide) (hts _ kw_600) (fun _ h9 => h9) rfl dX4_takeLost_123 (fun v123 hv123 hm123 => ?_)
            refine lv_iload_n hx hb dX4_takeLost_126 rfl (lv_at hl 3 rfl) ?_
            refine lv_iload_n hx hb dX4_takeLost_127 rfl (lv_at hl 2 rfl) ?_
            refine lv_imul hx hb dX4_takeLost_128 ?_
            refine lv_topi (fun v128 e128 => ?_)
            have hv128 : iv v128 (-2147483648) 2147483647 := iv_top _
            refine lv_isub hx hb dX4_takeLost_129 ?_
            refine lv_topi (fun v129 e129 => ?_)
            have hv129 : iv v129 (-2147483648) 2147483647 := iv_top _
            refine lv_iadd hx hb dX4_takeLost_130 ?_
            refine lv_topi (fun v130 e130 => ?_)
            have hv130 : iv v130 (-2147483648) 2147483647 := iv_top _
            refine ti_put (ty := .int) hx hb hts inlX4 tyX4 tyX4_ok nmX4 hown hK hT hS ha0 rfl rfl rfl rfl 2 (by decide) (hts _ kw_585) (fun _ h9 => h9) rfl rfl (by decide +kernel) rfl rfl ⟨v130, rfl, iv_w hv130 (by decide)⟩ (fun _ _ => trivial) dX4_takeLost_131 (fun H locs hT hS oq131 he131 hk131 => ?_)
            exact ret _ _ _ _ dX4_takeLost_134 (hT) hS
        · skip
          have f39 := i_nle c39
          have hj33_L4_39l : iv j33_L4 0 7 := iv_ltl hj33_L4 hv36 (Int32.not_le.mp c39) (by decide)
          have hv36_39r : iv v36 1 8 := iv_ltr hj33_L4_39l hv36 (Int32.not_le.mp c39) (by decide)
          refine lv_aload_n hx hb dX4_takeLost_42 rfl (lv_at hl 0 rfl) ?_
          refine ti_geti hx hb hts inlX4 hown hK hT ha0 rfl rfl rfl 7 (by decide) (hts _ kw_595) (fun _ h9 => h9) rfl dX4_takeLost_43 (fun v43 hv43 hm43 => ?_)
          refine lv_iload hx hb dX4_takeLost_46 (lv_at hl 4 rfl) ?_
          refine lv_ishr hx hb dX4_takeLost_48 ?_
          refine lv_topi (fun v48 e48 => ?_)
          have hv48 : iv v48 (-2147483648) 2147483647 := iv_top _
          refine lv_iconst (v := 1) hx hb dX4_takeLost_49 (by decide) ?_
          refine lv_iand hx hb dX4_takeLost_50 ?_
          refine lv_topi (fun v50 e50 => ?_)
          have hv50 : iv v50 0 1 := by rw [e50]; exact iv_and (iv_w (iv_c (x := (1 : Int32)) (k := 1) (by decide)) (by decide))
          have J63 : ∀ (j63_S0 : Int32) (H : Heap) (locs : List Loc) (ls : Array Slot), iv j63_S0 (-2147483648) 2147483647 → TI D vwCl (tysOf c0) (RTg ν) Y H → va_S (pW Y [4, 29]) s.heap H locs → lv_has ls 6 [(0, .ref a0), (1, .int x1), (2, .int v8), (3, .int j29_S0), (4, .int j33_L4)] → W p l e R s m ([.ref a0, .int x1] : List Value).toArray below meth c H locs 0 0 Q (F0 m 63 ls [.int j63_S0]) := by
            intro j63_S0 H locs ls hj63_S0 hT hS hl
            refine lv_istore (lv' := [(5, .int j63_S0), (0, .ref a0), (1, .int x1), (2, .int v8), (3, .int j29_S0), (4, .int j33_L4)]) hx hb dX4_takeLost_63 hl (by decide) rfl (fun ls hl => ?_)
            refine lv_aload_n hx hb dX4_takeLost_65 rfl (lv_at hl 1 rfl) ?_
            refine ti_getr hx hb hts inlX4 hown hK hT ha0 rfl rfl rfl 3 (by decide) (hts _ kw_105) (fun _ h9 => h9) rfl dX4_takeLost_66 (fun v66 hv66 hm66 => ?_)
            refine lv_iload hx hb dX4_takeLost_69 (lv_at hl 5 rfl) ?_
            refine lv_iload hx hb dX4_takeLost_71 (lv_at hl 0 rfl) ?_
            refine lv_aload_n hx hb dX4_takeLost_73 rfl (lv_at hl 1 rfl) ?_
            refine ti_geti hx hb hts inlX4 hown hK hT ha0 rfl rfl rfl 1 (by decide) (hts _ kw_583) (fun _ h9 => h9) rfl dX4_takeLost_74 (fun v74 hv74 hm74 => ?_)
            refine lv_aload_n hx hb dX4_takeLost_77 rfl (lv_at hl 1 rfl) ?_
            refine ti_getE (ci := 4) (v := .ref v66) hx hb hts inlX4 hown hK hm66 rfl (by decide) (hts _ kw_105) (fun _ h9 => h9) dX4_takeLost_78 ?_
            refine lv_iload hx hb dX4_takeLost_81 (lv_at hl 5 rfl) ?_
            refine ti_iald (lo := (-2147483648)) (hi := 2147483647) hx hb (aT0 hK) hT hv66 rfl hj33_L4_39l (by decide) (fun _ _ _ => ⟨_, _, rfl, by decide, by decide⟩) dX4_takeLost_83 (fun v83 hv83 hm83 => ?_)
            refine lv_isub hx hb dX4_takeLost_84 ?_
            refine lv_topi (fun v84 e84 => ?_)
            have hv84 : iv v84 (-2147483648) 2147483647 := iv_top _
            have J105 : ∀ (j105_S2 : Int32) (H : Heap) (locs : List Loc) (ls : Array Slot), iv j105_S2 (-2147483648) 2147483647 → TI D vwCl (tysOf c0) (RTg ν) Y H → va_S (pW Y [4, 29]) s.heap H locs → lv_has ls 6 [(0, .ref a0), (1, .int x1), (2, .int v8), (3, .int j29_S0), (4, .int j33_L4), (5, .int j63_S0)] → W p l e R s m ([.ref a0, .int x1] : List Value).toArray below meth c H locs 0 0 Q (F0 m 105 ls [.int j105_S2, .int j33_L4, .ref v66]) := by
              intro j105_S2 H locs ls hj105_S2 hT hS hl
              refine ti_iast hx hb (aT0 hK) hT hS hv66 rfl rfl hj33_L4_39l (by decide) (fun _ _ _ => ⟨_, _, rfl, by decide, by decide⟩) hj105_S2 (fun _ _ => trivial) dX4_takeLost_105 (fun H locs hT hS oq105 he105 hk105 => ?_)
              obtain ⟨v106, e106⟩ : ∃ y : Int32, y = j33_L4 + 1 := ⟨_, rfl⟩
              have hv106 : iv v106 1 8 := by rw [e106]; exact iv_w (iv_add hj33_L4_39l (iv_c (x := (1 : Int32)) (k := 1) (by decide)) (by decide)) (by decide)
              have s106 : v106.toInt = j33_L4.toInt + 1 := by rw [e106, iv_addE hj33_L4_39l (iv_c (x := (1 : Int32)) (k := 1) (by decide)) (by decide)]; rfl
              refine lv_iinc (v := v106) (lv' := [(4, .int v106), (0, .ref a0), (1, .int x1), (2, .int v8), (3, .int j29_S0), (5, .int j63_S0)]) hx hb dX4_takeLost_106 hl (k := 4) rfl (by rw [e106]; rfl) (by decide) rfl (fun ls hl => ?_)
              refine lv_goto (tgt := 33) hx hb dX4_takeLost_109 (by decide) ?_
              exact ih33 v106 _ _ _ (ms_up hms33 (by have := s106; omega) (iv_w (c := 1) (d := 8) hv106 (by decide)).2) (iv_w hv106 (by decide)) hT hS (lv_sub hl [1, 2, 3, 4, 0] rfl)
            refine lv_icmp_le (tgt := 95) hx hb dX4_takeLost_85 (by decide) (fun c85 => ?_) (fun c85 => ?_)
            · skip
              have f85 := i_le c85
              refine lv_aload_n hx hb dX4_takeLost_95 rfl (lv_at hl 1 rfl) ?_
              refine ti_getE (ci := 4) (v := .ref v66) hx hb hts inlX4 hown hK hm66 rfl (by decide) (hts _ kw_105) (fun _ h9 => h9) dX4_takeLost_96 ?_
              refine lv_iload hx hb dX4_takeLost_99 (lv_at hl 5 rfl) ?_
              refine ti_ialdE (v := .int v83) hx hb (aT0 hK) hT hv66 rfl hj33_L4_39l (by decide) (hm83) dX4_takeLost_101 ?_
              refine lv_iload hx hb dX4_takeLost_102 (lv_at hl 0 rfl) ?_
              refine lv_iadd hx hb dX4_takeLost_104 ?_
              refine lv_topi (fun v104 e104 => ?_)
              have hv104 : iv v104 (-2147483648) 2147483647 := iv_top _
              exact J105 v104 _ _ _  (iv_w hv104 (by decide)) hT hS (lv_sub hl [1, 2, 3, 4, 5, 0] rfl)
            · skip
              have f85 := i_nle c85
              have hv84_85l : iv v84 (-2147483648) 2147483646 := iv_ltl hv84 hj63_S0 (Int32.not_le.mp c85) (by decide)
              have hj63_S0_85r : iv j63_S0 (-2147483647) 2147483647 := iv_ltr hv84_85l hj63_S0 (Int32.not_le.mp c85) (by decide)
              refine lv_aload_n hx hb dX4_takeLost_88 rfl (lv_at hl 1 rfl) ?_
              refine ti_getE (ci := 4) (v := .int v74) hx hb hts inlX4 hown hK hm74 rfl (by decide) (hts _ kw_583) (fun _ h9 => h9) dX4_takeLost_89 ?_
              refine lv_goto (tgt := 105) hx hb dX4_takeLost_92 (by decide) ?_
              exact J105 v74 _ _ _  (iv_w hv74 (by decide)) hT hS (lv_sub hl [1, 2, 3, 4, 5, 0] rfl)
          refine lv_if_ne (tgt := 58) hx hb dX4_takeLost_51 (by decide) (fun c51 => ?_) (fun c51 => ?_)
          · skip
            have kl0 : (0 : Int32).toInt = 0 := by decide
            have f51 := i_ne c51
            have hv50_51l : iv v50 1 1 := iv_nel hv50 (iv_c (x := (0 : Int32)) (k := 0) (by decide)) c51 (by decide)
            refine lv_aload_n hx hb dX4_takeLost_58 rfl (lv_at hl 0 rfl) ?_
            refine ti_geti hx hb hts inlX4 hown hK hT ha0 rfl rfl rfl 9 (by decide) (hts _ kw_599) (fun _ h9 => h9) rfl dX4_takeLost_59 (fun v59 hv59 hm59 => ?_)
            refine lv_ineg hx hb dX4_takeLost_62 ?_
            refine lv_topi (fun v62 e62 => ?_)
            have hv62 : iv v62 (-2147483648) 2147483647 := iv_top _
            exact J63 v62 _ _ _  (iv_w hv62 (by decide)) hT hS (lv_sub hl [0, 1, 2, 3, 4] rfl)
          · skip
            have kl0 : (0 : Int32).toInt = 0 := by decide
            have f51 := i_eq c51
            have hv50_51l : iv v50 0 0 := iv_eql hv50 (iv_c (x := (0 : Int32)) (k := 0) (by decide)) c51 (by decide)
            refine lv_iload_n hx hb dX4_takeLost_54 rfl (lv_at hl 3 rfl) ?_
            refine lv_goto (tgt := 63) hx hb dX4_takeLost_55 (by decide) ?_
            exact J63 j29_S0 _ _ _  (iv_w hj29_S0 (by decide)) hT hS (lv_sub hl [0, 1, 2, 3, 4] rfl)
    refine lv_istore (lv' := [(4, .int (0 : Int32)), (3, .int j29_S0), (0, .ref a0), (1, .int x1), (2, .int v8)]) hx hb dX4_takeLost_31 hl (by decide) rfl (fun ls hl => ?_)
    exact J33 _ (0 : Int32) _ _ _ (Nat.lt_succ_self _) (iv_w (iv_c (x := (0 : Int32)) (k := 0) (by decide)) (by decide)) hT hS (lv_sub hl [2, 3, 4, 1, 0] rfl)
  have J28 : ∀  (H : Heap) (locs : List Loc) (ls : Array Slot), TI D vwCl (tysOf c0) (RTg ν) Y H → va_S (pW Y [4, 29]) s.heap H locs → lv_has ls 6 [(0, .ref a0), (1, .int x1), (2, .int v8)] → W p l e R s m ([.ref a0, .int x1] : List Value).toArray below meth c H locs 0 0 Q (F0 m 28 ls []) := by
    intro  H locs ls  hT hS hl
    refine lv_iconst (v := 0) hx hb dX4_takeLost_28 (by decide) ?_
    exact J29 (0 : Int32) _ _ _  (iv_w (iv_c (x := (0 : Int32)) (k := 0) (by decide)) (by decide)) hT hS (lv_sub hl [0, 1, 2] rfl)
  refine lv_icmp_ne (tgt := 28) hx hb dX4_takeLost_12 (by decide) (fun c12 => ?_) (fun c12 => ?_)
  · skip
    have kl1 : (1 : Int32).toInt = 1 := by decide
    have f12 := i_ne c12
    exact J28  _ _ _   hT hS (lv_sub hl [1, 2, 0] rfl)
  · skip
    have kl1 : (1 : Int32).toInt = 1 := by decide
    have f12 := i_eq c12
    have hx1_12l : iv x1 1 1 := iv_eql hx1 (iv_c (x := (1 : Int32)) (k := 1) (by decide)) c12 (by decide)
    refine lv_iload_n hx hb dX4_takeLost_15 rfl (lv_at hl 0 rfl) ?_
    refine lv_if_le (tgt := 28) hx hb dX4_takeLost_16 (by decide) (fun c16 => ?_) (fun c16 => ?_)
    · skip
      have kl0 : (0 : Int32).toInt = 0 := by decide
      have f16 := i_le c16
      have hv8_16l : iv v8 (-2147483648) 0 := iv_lel hv8 (iv_c (x := (0 : Int32)) (k := 0) (by decide)) c16 (by decide)
      exact J28  _ _ _   hT hS (lv_sub hl [1, 2, 0] rfl)
    · skip
      have kl0 : (0 : Int32).toInt = 0 := by decide
      have f16 := i_nle c16
      have hv8_16r : iv v8 1 2147483647 := iv_ltr (iv_c (x := (0 : Int32)) (k := 0) (by decide)) hv8 (Int32.not_le.mp c16) (by decide)
      refine lv_aload_n hx hb dX4_takeLost_19 rfl (lv_at hl 1 rfl) ?_
      refine ti_geti hx hb hts inlX4 hown hK hT ha0 rfl rfl rfl 10 (by decide) (hts _ kw_600) (fun _ h9 => h9) rfl dX4_takeLost_20 (fun v20 hv20 hm20 => ?_)
      refine lv_iload_n hx hb dX4_takeLost_23 rfl (lv_at hl 0 rfl) ?_
      refine lv_idiv hx hb dX4_takeLost_24 (iv_ne0 hv8_16r (by decide)) ?_
      refine lv_topi (fun v24 e24 => ?_)
      have hv24 : iv v24 (-2147483648) 2147483647 := by rw [e24]; exact iv_div hv20 hv8_16r (by decide)
      refine lv_goto (tgt := 29) hx hb dX4_takeLost_25 (by decide) ?_
      exact J29 v24 _ _ _  (iv_w hv24 (by decide)) hT hS (lv_sub hl [1, 2, 0] rfl)
set_option maxHeartbeats 4000000 in
set_option maxRecDepth 100000 in
theorem t_X4_strike (l : Launch) {D : va_G} {c0 : Nat → ClassId} {Y : Nat → Option Nat} {ν : Nat → Nat} {H : Heap} (hT : TI D vwCl (tysOf c0) (RTg ν) Y H) {a0 : Nat} (ha0 : Y a0 = some 4) {a1 : Nat} (ha1 : Y a1 = some 0) : Met l yX4_strike (wz yX4_strike cX4_strike 2 none) { frames := 1, cells := 0, slots := 0, locals := 27 } (TP D vwCl (tysOf c0) H [.ref a0, .ref a1]) (TQv (fun H' => TI D vwCl (tysOf c0) (RTg ν) Y H') Y [4, 29]) 0 0 (pW Y [4, 29]) := by
  refine Met.ofW (cc := cX4_strike) (maxL := 2) (ret := none) (by decide) rfl ?_
  intro p e s m args below meth c s₁ B hml hv
  obtain ⟨rfl, rfl, hK⟩ := hv
  have hx := B.exec
  have hb := B.bytes
  have hr := B.returns
  have hts : ∀ w ∈ wq, w.before _ s = true := fun w h => atoms_spec (ws := wz yX4_strike cX4_strike 2 none) B.pre w (List.mem_cons_of_mem _ h)
  have hown : s.vm.findClass RX4 = some m.cls := findClass_of_methodNamed B.named
  have hlocks := B.notSynchronized
  obtain ⟨R, hR⟩ : ∃ R : Room, R = ({ frames := 1, cells := 0, slots := 0, locals := 27 } : Room) := ⟨_, rfl⟩
  rw [show (headSpec (wz yX4_strike cX4_strike 2 none) { frames := 1, cells := 0, slots := 0, locals := 27 }).room = R from hR.symm]
  refine ti_mv hx hb hr hlocks (fun Q ret => ?_)
  have hl := lv_entry [.ref a0, .ref a1] (n := 2) (Nat.le_of_ble_eq_true rfl)
  rw [lg_entry_eq]
  generalize (lg_sl [.ref a0, .ref a1] ++ List.replicate (2 - (lg_sl [.ref a0, .ref a1]).length) Slot.unset).toArray = ls at hl ⊢
  have hl : lv_has ls 2 [(0, .ref a0), (1, .ref a1)] := hl
  refine ti_gen (P := fun H => TI D vwCl (tysOf c0) (RTg ν) Y H) (Y := Y) (ws := [4, 29]) hT (fun H locs hT hS => ?_)
  refine lv_aload_n hx hb dX4_strike_0 rfl (lv_at hl 0 rfl) ?_
  refine lv_aload_n hx hb dX4_strike_1 rfl (lv_at hl 1 rfl) ?_
  refine ti_callv (va_runV (As := [.ref a1]) (rest := []) ⟨hx, hb, hml, hown, hts⟩ (t_X4_look l hT ha0 ha1) (cwV 1 hts (good_V kw_674 kw_590 kw_591 kw_29 kw_592) rfl rfl rfl (by decide +kernel) ⟨by rw [hR]; decide, by rw [hR]; decide⟩) (ti_preV hK hT ha0 rfl rfl) rfl rfl hl.1 rfl (lv_room (Nat.le_of_ble_eq_true rfl)) dX4_strike_2 ⟨Nat.zero_le _, Nat.zero_le _⟩) hS (pW_sub rfl) (fun H locs hB hS _ hk2 => ?_)
  have hT := hB
  refine lv_aload_n hx hb dX4_strike_5 rfl (lv_at hl 0 rfl) ?_
  refine ti_geti hx hb hts inlX4 hown hK hT ha0 rfl rfl rfl 10 (by decide) (hts _ kw_600) (fun _ h9 => h9) rfl dX4_strike_6 (fun v6 hv6 hm6 => ?_)
  have J20 : ∀  (H : Heap) (locs : List Loc) (ls : Array Slot), TI D vwCl (tysOf c0) (RTg ν) Y H → va_S (pW Y [4, 29]) s.heap H locs → lv_has ls 2 [(0, .ref a0), (1, .ref a1)] → W p l e R s m ([.ref a0, .ref a1] : List Value).toArray below meth c H locs 0 0 Q (F0 m 20 ls []) := by
    intro  H locs ls  hT hS hl
    refine lv_aload_n hx hb dX4_strike_20 rfl (lv_at hl 1 rfl) ?_
    refine ti_geti hx hb hts inlX0 hown hK hT ha1 rfl rfl rfl 3 (by decide) (hts _ kw_673) (fun _ h9 => h9) rfl dX4_strike_21 (fun v21 hv21 hm21 => ?_)
    refine lv_if_eq (tgt := 31) hx hb dX4_strike_24 (by decide) (fun c24 => ?_) (fun c24 => ?_)
    · skip
      have kl0 : (0 : Int32).toInt = 0 := by decide
      have f24 := i_eq c24
      have hv21_24l : iv v21 0 0 := iv_eql hv21 (iv_c (x := (0 : Int32)) (k := 0) (by decide)) c24 (by decide)
      exact ret _ _ _ _ dX4_strike_31 (hT) hS
    · skip
      have kl0 : (0 : Int32).toInt = 0 := by decide
      have f24 := i_ne c24
      have hv21_24l : iv v21 1 1 := iv_nel hv21 (iv_c (x := (0 : Int32)) (k := 0) (by decide)) c24 (by decide)
      refine lv_aload_n hx hb dX4_strike_27 rfl (lv_at hl 0 rfl) ?_
      refine ti_callv (va_runV (As := []) (rest := []) ⟨hx, hb, hml, hown, hts⟩ (t_X4_raiseLeast l hT ha0) (cwV 0 hts (good_V kw_679 kw_680 kw_681 kw_29 kw_682) rfl rfl rfl (by decide +kernel) ⟨by rw [hR]; decide, by rw [hR]; decide⟩) (ti_preV hK hT ha0 rfl rfl) rfl rfl hl.1 rfl (lv_room (Nat.le_of_ble_eq_true rfl)) dX4_strike_28 ⟨Nat.zero_le _, Nat.zero_le _⟩) hS (pW_sub rfl) (fun H locs hB hS _ hk28 => ?_)
      have hT := hB
      exact ret _ _ _ _ dX4_strike_31 (hT) hS
  refine lv_if_le (tgt := 20) hx hb dX4_strike_9 (by decide) (fun c9 => ?_) (fun c9 => ?_)
  · skip
    have kl0 : (0 : Int32).toInt = 0 := by decide
    have f9 := i_le c9
    have hv6_9l : iv v6 (-2147483648) 0 := iv_lel hv6 (iv_c (x := (0 : Int32)) (k := 0) (by decide)) c9 (by decide)
    exact J20  _ _ _   hT hS (lv_sub hl [0, 1] rfl)
  · skip
    have kl0 : (0 : Int32).toInt = 0 := by decide
    have f9 := i_nle c9
    have hv6_9r : iv v6 1 2147483647 := iv_ltr (iv_c (x := (0 : Int32)) (k := 0) (by decide)) hv6 (Int32.not_le.mp c9) (by decide)
    refine lv_aload_n hx hb dX4_strike_12 rfl (lv_at hl 0 rfl) ?_
    refine lv_aload_n hx hb dX4_strike_13 rfl (lv_at hl 1 rfl) ?_
    refine ti_geti hx hb hts inlX0 hown hK hT ha1 rfl rfl rfl 2 (by decide) (hts _ kw_672) (fun _ h9 => h9) rfl dX4_strike_14 (fun v14 hv14 hm14 => ?_)
    refine ti_callv (va_runV (As := [.int v14]) (rest := []) ⟨hx, hb, hml, hown, hts⟩ (t_X4_takeLost l hT ha0 (iv_w hv14 (by decide))) (cwV 1 hts (good_V kw_675 kw_676 kw_677 kw_29 kw_678) rfl rfl rfl (by decide +kernel) ⟨by rw [hR]; decide, by rw [hR]; decide⟩) (ti_preV hK hT ha0 rfl rfl) rfl rfl hl.1 rfl (lv_room (Nat.le_of_ble_eq_true rfl)) dX4_strike_17 ⟨Nat.zero_le _, Nat.zero_le _⟩) hS (pW_sub rfl) (fun H locs hB hS _ hk17 => ?_)
    have hT := hB
    exact J20  _ _ _   hT hS (lv_sub hl [0, 1] rfl)
set_option maxHeartbeats 4000000 in
set_option maxRecDepth 100000 in
theorem t_X2_behind (l : Launch) {D : va_G} {c0 : Nat → ClassId} {Y : Nat → Option Nat} {ν : Nat → Nat} {H : Heap} (hT : TI D vwCl (tysOf c0) (RTg ν) Y H) {a0 : Nat} (ha0 : Y a0 = some 2) {a1 : Nat} (ha1 : Y a1 = some 7) {x2 : Int32} (hx2 : iv x2 (-2147483648) 2147483647) {x3 : Int32} (hx3 : iv x3 (-2147483648) 2147483647) {x4 : Int32} (hx4 : iv x4 (-2147483648) 2147483647) {x5 : Int32} (hx5 : iv x5 (-1) 7) (hi0 : 1 ≤ x4.toInt → 0 ≤ x5.toInt) : Met l yX2_behind (wz yX2_behind cX2_behind 7 (some .int)) { frames := 2, cells := 0, slots := 0, locals := 60 } (TP D vwCl (tysOf c0) H [.ref a0, .ref a1, .int x2, .int x3, .int x4, .int x5]) (TQi (fun x H' => TI D vwCl (tysOf c0) (RTg ν) Y H') Y [4, 29]) 0 0 (pW Y [4, 29]) := by
  refine Met.ofW (cc := cX2_behind) (maxL := 7) (ret := (some .int)) (by decide) rfl ?_
  intro p e s m args below meth c s₁ B hml hv
  obtain ⟨rfl, rfl, hK⟩ := hv
  have hx := B.exec
  have hb := B.bytes
  have hr := B.returns
  have hts : ∀ w ∈ wq, w.before _ s = true := fun w h => atoms_spec (ws := wz yX2_behind cX2_behind 7 (some .int)) B.pre w (List.mem_cons_of_mem _ h)
  have hown : s.vm.findClass RX2 = some m.cls := findClass_of_methodNamed B.named
  have hlocks := B.notSynchronized
  obtain ⟨R, hR⟩ : ∃ R : Room, R = ({ frames := 2, cells := 0, slots := 0, locals := 60 } : Room) := ⟨_, rfl⟩
  rw [show (headSpec (wz yX2_behind cX2_behind 7 (some .int)) { frames := 2, cells := 0, slots := 0, locals := 60 }).room = R from hR.symm]
  refine ti_mi hx hb hr hlocks (fun Q ret => ?_)
  have hl := lv_entry [.ref a0, .ref a1, .int x2, .int x3, .int x4, .int x5] (n := 7) (Nat.le_of_ble_eq_true rfl)
  rw [lg_entry_eq]
  generalize (lg_sl [.ref a0, .ref a1, .int x2, .int x3, .int x4, .int x5] ++ List.replicate (7 - (lg_sl [.ref a0, .ref a1, .int x2, .int x3, .int x4, .int x5]).length) Slot.unset).toArray = ls at hl ⊢
  have hl : lv_has ls 7 [(0, .ref a0), (1, .ref a1), (2, .int x2), (3, .int x3), (4, .int x4), (5, .int x5)] := hl
  refine ti_gen (P := fun H => TI D vwCl (tysOf c0) (RTg ν) Y H) (Y := Y) (ws := [4, 29]) hT (fun H locs hT hS => ?_)
  refine lv_aload_n hx hb dX2_behind_0 rfl (lv_at hl 0 rfl) ?_
  refine ti_geti hx hb hts inlX2 hown hK hT ha0 rfl rfl rfl 3 (by decide) (hts _ kw_871) (fun _ h9 => h9) rfl dX2_behind_1 (fun v1 hv1 hm1 => ?_)
  refine lv_if_ne (tgt := 9) hx hb dX2_behind_4 (by decide) (fun c4 => ?_) (fun c4 => ?_)
  · skip
    have kl0 : (0 : Int32).toInt = 0 := by decide
    have f4 := i_ne c4
    have hv1_4l : iv v1 1 1 := iv_nel hv1 (iv_c (x := (0 : Int32)) (k := 0) (by decide)) c4 (by decide)
    refine lv_aload_n hx hb dX2_behind_9 rfl (lv_at hl 0 rfl) ?_
    refine ti_getr hx hb hts inlX2 hown hK hT ha0 rfl rfl rfl 0 (by decide) (hts _ kw_111) (fun _ h9 => h9) rfl dX2_behind_10 (fun v10 hv10 hm10 => ?_)
    refine lv_aload_n hx hb dX2_behind_13 rfl (lv_at hl 1 rfl) ?_
    refine ti_geti hx hb hts inlX7 hown hK hT ha1 rfl rfl rfl 1 (by decide) (hts _ kw_874) (fun _ h9 => h9) rfl dX2_behind_14 (fun v14 hv14 hm14 => ?_)
    refine ti_put (ty := .int) hx hb hts inlX4 tyX4 tyX4_ok nmX4 hown hK hT hS hv10 rfl rfl rfl rfl 0 (by decide) (hts _ kw_902) (fun _ h9 => h9) rfl rfl (by decide +kernel) rfl rfl ⟨v14, rfl, iv_w hv14 (by decide)⟩ (fun _ _ => trivial) dX2_behind_17 (fun H locs hT hS oq17 he17 hk17 => ?_)
    refine lv_aload_n hx hb dX2_behind_20 rfl (lv_at hl 0 rfl) ?_
    refine ti_getE (ci := 2) (v := .ref v10) hx hb hts inlX2 hown hK (hm10.kept (oq17 _ (ne_r ha0 hv10 rfl))) rfl (by decide) (hts _ kw_111) (fun _ h9 => h9) dX2_behind_21 ?_
    refine lv_aload_n hx hb dX2_behind_24 rfl (lv_at hl 1 rfl) ?_
    refine ti_geti hx hb hts inlX7 hown hK hT ha1 rfl rfl rfl 0 (by decide) (hts _ kw_897) (fun _ h9 => h9) rfl dX2_behind_25 (fun v25 hv25 hm25 => ?_)
    refine ti_put (ty := .int) hx hb hts inlX4 tyX4 tyX4_ok nmX4 hown hK hT hS hv10 rfl rfl rfl rfl 1 (by decide) (hts _ kw_903) (fun _ h9 => h9) rfl rfl (by decide +kernel) rfl rfl ⟨v25, rfl, iv_w hv25 (by decide)⟩ (fun _ _ => trivial) dX2_behind_28 (fun H locs hT hS oq28 he28 hk28 => ?_)
    refine lv_aload_n hx hb dX2_behind_31 rfl (lv_at hl 0 rfl) ?_
    refine ti_getE (ci := 2) (v := .ref v10) hx hb hts inlX2 hown hK ((hm10.kept (oq17 _ (ne_r ha0 hv10 rfl))).kept (oq28 _ (ne_r ha0 hv10 rfl))) rfl (by decide) (hts _ kw_111) (fun _ h9 => h9) dX2_behind_32 ?_
    refine lv_aload_n hx hb dX2_behind_35 rfl (lv_at hl 1 rfl) ?_
    refine ti_geti hx hb hts inlX7 hown hK hT ha1 rfl rfl rfl 3 (by decide) (hts _ kw_904) (fun _ h9 => h9) rfl dX2_behind_36 (fun v36 hv36 hm36 => ?_)
    refine ti_put (ty := .int) hx hb hts inlX4 tyX4 tyX4_ok nmX4 hown hK hT hS hv10 rfl rfl rfl rfl 2 (by decide) (hts _ kw_905) (fun _ h9 => h9) rfl rfl (by decide +kernel) rfl rfl ⟨v36, rfl, iv_w hv36 (by decide)⟩ (fun _ _ => trivial) dX2_behind_39 (fun H locs hT hS oq39 he39 hk39 => ?_)
    refine lv_iconst (v := 0) hx hb dX2_behind_42 (by decide) ?_
    have J45 : ∀ (n : Nat) (j45_L6 : Int32) (H : Heap) (locs : List Loc) (ls : Array Slot), (8 - j45_L6.toInt).toNat < n → iv j45_L6 0 8 → TI D vwCl (tysOf c0) (RTg ν) Y H → va_S (pW Y [4, 29]) s.heap H locs → lv_has ls 7 [(0, .ref a0), (1, .ref a1), (2, .int x2), (3, .int x3), (4, .int x4), (5, .int x5), (6, .int j45_L6)] → W p l e R s m ([.ref a0, .ref a1, .int x2, .int x3, .int x4, .int x5] : List Value).toArray below meth c H locs 0 0 Q (F0 m 45 ls []) := by
      intro n
      induction n with
      | zero => intro j45_L6 H locs ls hms; exact absurd hms (Nat.not_lt_zero _)
      | succ n ih45 =>
        intro j45_L6 H locs ls hms45 hj45_L6 hT hS hl
        refine lv_iload hx hb dX2_behind_45 (lv_at hl 6 rfl) ?_
        refine lv_aload_n hx hb dX2_behind_47 rfl (lv_at hl 1 rfl) ?_
        refine ti_geti hx hb hts inlX7 hown hK hT ha1 rfl rfl rfl 1 (by decide) (hts _ kw_874) (fun _ h9 => h9) rfl dX2_behind_48 (fun v48 hv48 hm48 => ?_)
        refine lv_icmp_ge (tgt := 88) hx hb dX2_behind_51 (by decide) (fun c51 => ?_) (fun c51 => ?_)
        · skip
          have f51 := i_le c51
          refine lv_aload_n hx hb dX2_behind_88 rfl (lv_at hl 0 rfl) ?_
          refine ti_getr hx hb hts inlX2 hown hK hT ha0 rfl rfl rfl 0 (by decide) (hts _ kw_111) (fun _ h9 => h9) rfl dX2_behind_89 (fun v89 hv89 hm89 => ?_)
          refine ti_getr hx hb hts inlX4 hown hK hT hv89 rfl rfl rfl 3 (by decide) (hts _ kw_906) (fun _ h9 => h9) rfl dX2_behind_92 (fun v92 hv92 hm92 => ?_)
          refine lv_aload_n hx hb dX2_behind_95 rfl (lv_at hl 0 rfl) ?_
          refine ti_geti hx hb hts inlX2 hown hK hT ha0 rfl rfl rfl 2 (by decide) (hts _ kw_870) (fun _ h9 => h9) rfl dX2_behind_96 (fun v96 hv96 hm96 => ?_)
          refine lv_iload_n hx hb dX2_behind_99 rfl (lv_at hl 2 rfl) ?_
          refine ti_iast hx hb (aT0 hK) hT hS hv92 rfl rfl hv96 (by decide) (fun _ _ _ => ⟨_, _, rfl, by decide, by decide⟩) hx2 (fun _ _ => trivial) dX2_behind_100 (fun H locs hT hS oq100 he100 hk100 => ?_)
          refine lv_aload_n hx hb dX2_behind_101 rfl (lv_at hl 0 rfl) ?_
          refine ti_getE (ci := 2) (v := .ref v89) hx hb hts inlX2 hown hK (hm89.kept (oq100 _ (ne_r ha0 hv92 rfl))) rfl (by decide) (hts _ kw_111) (fun _ h9 => h9) dX2_behind_102 ?_
          refine ti_getr hx hb hts inlX4 hown hK hT hv89 rfl rfl rfl 4 (by decide) (hts _ kw_907) (fun _ h9 => h9) rfl dX2_behind_105 (fun v105 hv105 hm105 => ?_)
          refine lv_aload_n hx hb dX2_behind_108 rfl (lv_at hl 0 rfl) ?_
          refine ti_getE (ci := 2) (v := .int v96) hx hb hts inlX2 hown hK (hm96.kept (oq100 _ (ne_r ha0 hv92 rfl))) rfl (by decide) (hts _ kw_870) (fun _ h9 => h9) dX2_behind_109 ?_
          refine lv_iload_n hx hb dX2_behind_112 rfl (lv_at hl 3 rfl) ?_
          refine lv_iload_n hx hb dX2_behind_113 rfl (lv_at hl 2 rfl) ?_
          refine va_mmin hx hb (by rw [hml]; exact hl.1.symm) hown (hts _ kw_908) (hts _ kw_211) (hts _ kw_212) (hts _ kw_213) (by rw [hR]; decide) (by rw [hR]; exact Nat.le_of_ble_eq_true rfl) (Nat.zero_le _) (Nat.zero_le _) dX2_behind_114 ?_
          refine lv_topi (fun v114 e114 => ?_)
          have hv114 : iv v114 (-2147483648) 2147483647 := by rw [e114]; exact iv_min hx3 hx2 (by decide)
          refine ti_iast hx hb (aT0 hK) hT hS hv105 rfl rfl hv96 (by decide) (fun _ _ _ => ⟨_, _, rfl, by decide, by decide⟩) hv114 (fun _ _ => trivial) dX2_behind_117 (fun H locs hT hS oq117 he117 hk117 => ?_)
          refine lv_iload hx hb dX2_behind_118 (lv_at hl 4 rfl) ?_
          have J150 : ∀  (H : Heap) (locs : List Loc) (ls : Array Slot), TI D vwCl (tysOf c0) (RTg ν) Y H → va_S (pW Y [4, 29]) s.heap H locs → lv_has ls 7 [(0, .ref a0), (1, .ref a1), (2, .int x2), (3, .int x3), (4, .int x4), (5, .int x5), (6, .int j45_L6)] → W p l e R s m ([.ref a0, .ref a1, .int x2, .int x3, .int x4, .int x5] : List Value).toArray below meth c H locs 0 0 Q (F0 m 150 ls []) := by
            intro  H locs ls  hT hS hl
            refine lv_aload_n hx hb dX2_behind_150 rfl (lv_at hl 0 rfl) ?_
            refine ti_getr hx hb hts inlX2 hown hK hT ha0 rfl rfl rfl 0 (by decide) (hts _ kw_111) (fun _ h9 => h9) rfl dX2_behind_151 (fun v151 hv151 hm151 => ?_)
            refine lv_aload_n hx hb dX2_behind_154 rfl (lv_at hl 1 rfl) ?_
            refine ti_getr hx hb hts inlX7 hown hK hT ha1 rfl rfl rfl 6 (by decide) (hts _ kw_894) (fun _ h9 => h9) rfl dX2_behind_155 (fun v155 hv155 hm155 => ?_)
            refine ti_callv (va_runV (As := [.ref v155]) (rest := []) ⟨hx, hb, hml, hown, hts⟩ (t_X4_strike l hT hv151 hv155) (cwV 1 hts (good_V kw_909 kw_669 kw_670 kw_29 kw_671) rfl rfl rfl (by decide +kernel) ⟨by rw [hR]; decide, by rw [hR]; decide⟩) (ti_preV hK hT hv151 rfl rfl) rfl rfl hl.1 rfl (lv_room (Nat.le_of_ble_eq_true rfl)) dX2_behind_158 ⟨Nat.zero_le _, Nat.zero_le _⟩) hS (pW_sub rfl) (fun H locs hB hS _ hk158 => ?_)
            have hT := hB
            refine lv_aload_n hx hb dX2_behind_161 rfl (lv_at hl 0 rfl) ?_
            refine ti_getE (ci := 2) (v := .ref v151) hx hb hts inlX2 hown hK (hm151.call hk158 (pW_not ha0 rfl)) rfl (by decide) (hts _ kw_111) (fun _ h9 => h9) dX2_behind_162 ?_
            refine ti_getr hx hb hts inlX4 hown hK hT hv151 rfl rfl rfl 3 (by decide) (hts _ kw_906) (fun _ h9 => h9) rfl dX2_behind_165 (fun v165 hv165 hm165 => ?_)
            refine lv_aload_n hx hb dX2_behind_168 rfl (lv_at hl 0 rfl) ?_
            refine ti_geti hx hb hts inlX2 hown hK hT ha0 rfl rfl rfl 2 (by decide) (hts _ kw_870) (fun _ h9 => h9) rfl dX2_behind_169 (fun v169 hv169 hm169 => ?_)
            refine ti_iald (lo := (-2147483648)) (hi := 2147483647) hx hb (aT0 hK) hT hv165 rfl hv169 (by decide) (fun _ _ _ => ⟨_, _, rfl, by decide, by decide⟩) dX2_behind_172 (fun v172 hv172 hm172 => ?_)
            exact ret _ _ _ _ _ dX2_behind_173 (hT) hS
          refine lv_if_le (tgt := 150) hx hb dX2_behind_120 (by decide) (fun c120 => ?_) (fun c120 => ?_)
          · skip
            have f120 := i_le c120
            have hx4_120l : iv x4 (-2147483648) 0 := iv_lel hx4 (iv_c (x := (0 : Int32)) (k := 0) (by decide)) c120 (by decide)
            exact J150  _ _ _   hT hS (lv_sub hl [0, 1, 2, 3, 4, 5, 6] rfl)
          · skip
            have f120 := i_nle c120
            have hx4_120r : iv x4 1 2147483647 := iv_ltr (iv_c (x := (0 : Int32)) (k := 0) (by decide)) hx4 (Int32.not_le.mp c120) (by decide)
            have hq120_17 : iv x5 0 7 := by have := hi0; have b0a := (hx4_120r).1; have b0b := (hx4_120r).2; have b1a := (hx5).1; have b1b := (hx5).2; exact ⟨by omega, by omega⟩
            refine lv_aload_n hx hb dX2_behind_123 rfl (lv_at hl 0 rfl) ?_
            refine ti_getE (ci := 2) (v := .ref v89) hx hb hts inlX2 hown hK ((hm89.kept (oq100 _ (ne_r ha0 hv92 rfl))).kept (oq117 _ (ne_r ha0 hv105 rfl))) rfl (by decide) (hts _ kw_111) (fun _ h9 => h9) dX2_behind_124 ?_
            refine ti_getE (ci := 4) (v := .ref v92) hx hb hts inlX4 hown hK ((hm92.kept (oq100 _ (ne_r hv89 hv92 rfl))).kept (oq117 _ (ne_r hv89 hv105 rfl))) rfl (by decide) (hts _ kw_906) (fun _ h9 => h9) dX2_behind_127 ?_
            refine lv_iload hx hb dX2_behind_130 (lv_at hl 5 rfl) ?_
            refine lv_aload_n hx hb dX2_behind_132 rfl (lv_at hl 1 rfl) ?_
            refine ti_geti hx hb hts inlX7 hown hK hT ha1 rfl rfl rfl 0 (by decide) (hts _ kw_897) (fun _ h9 => h9) rfl dX2_behind_133 (fun v133 hv133 hm133 => ?_)
            refine lv_aload_n hx hb dX2_behind_136 rfl (lv_at hl 0 rfl) ?_
            refine ti_getr hx hb hts inlX2 hown hK hT ha0 rfl rfl rfl 1 (by decide) (hts _ kw_112) (fun _ h9 => h9) rfl dX2_behind_137 (fun v137 hv137 hm137 => ?_)
            refine lv_iload hx hb dX2_behind_140 (lv_at hl 5 rfl) ?_
            refine ti_iald (lo := (-2147483648)) (hi := 2147483647) hx hb (aT0 hK) hT hv137 rfl hq120_17 (by decide) (fun _ _ _ => ⟨_, _, rfl, by decide, by decide⟩) dX2_behind_142 (fun v142 hv142 hm142 => ?_)
            refine lv_iload hx hb dX2_behind_143 (lv_at hl 4 rfl) ?_
            refine lv_iadd hx hb dX2_behind_145 ?_
            refine lv_topi (fun v145 e145 => ?_)
            have hv145 : iv v145 (-2147483648) 2147483647 := iv_top _
            refine va_mmin hx hb (by rw [hml]; exact hl.1.symm) hown (hts _ kw_908) (hts _ kw_211) (hts _ kw_212) (hts _ kw_213) (by rw [hR]; decide) (by rw [hR]; exact Nat.le_of_ble_eq_true rfl) (Nat.zero_le _) (Nat.zero_le _) dX2_behind_146 ?_
            refine lv_topi (fun v146 e146 => ?_)
            have hv146 : iv v146 (-2147483648) 100000 := by rw [e146]; exact iv_min hv133 hv145 (by decide)
            refine ti_iast hx hb (aT0 hK) hT hS hv92 rfl rfl hq120_17 (by decide) (fun _ _ _ => ⟨_, _, rfl, by decide, by decide⟩) hv146 (fun _ _ => trivial) dX2_behind_149 (fun H locs hT hS oq149 he149 hk149 => ?_)
            exact J150  _ _ _   hT hS (lv_sub hl [0, 1, 2, 3, 4, 5, 6] rfl)
        · skip
          have f51 := i_nle c51
          have hj45_L6_51l : iv j45_L6 0 7 := iv_ltl hj45_L6 hv48 (Int32.not_le.mp c51) (by decide)
          have hv48_51r : iv v48 1 8 := iv_ltr hj45_L6_51l hv48 (Int32.not_le.mp c51) (by decide)
          refine lv_aload_n hx hb dX2_behind_54 rfl (lv_at hl 0 rfl) ?_
          refine ti_getr hx hb hts inlX2 hown hK hT ha0 rfl rfl rfl 0 (by decide) (hts _ kw_111) (fun _ h9 => h9) rfl dX2_behind_55 (fun v55 hv55 hm55 => ?_)
          refine ti_getr hx hb hts inlX4 hown hK hT hv55 rfl rfl rfl 3 (by decide) (hts _ kw_906) (fun _ h9 => h9) rfl dX2_behind_58 (fun v58 hv58 hm58 => ?_)
          refine lv_iload hx hb dX2_behind_61 (lv_at hl 6 rfl) ?_
          refine lv_aload_n hx hb dX2_behind_63 rfl (lv_at hl 0 rfl) ?_
          refine ti_getr hx hb hts inlX2 hown hK hT ha0 rfl rfl rfl 1 (by decide) (hts _ kw_112) (fun _ h9 => h9) rfl dX2_behind_64 (fun v64 hv64 hm64 => ?_)
          refine lv_iload hx hb dX2_behind_67 (lv_at hl 6 rfl) ?_
          refine ti_iald (lo := (-2147483648)) (hi := 2147483647) hx hb (aT0 hK) hT hv64 rfl hj45_L6_51l (by decide) (fun _ _ _ => ⟨_, _, rfl, by decide, by decide⟩) dX2_behind_69 (fun v69 hv69 hm69 => ?_)
          refine ti_iast hx hb (aT0 hK) hT hS hv58 rfl rfl hj45_L6_51l (by decide) (fun _ _ _ => ⟨_, _, rfl, by decide, by decide⟩) hv69 (fun _ _ => trivial) dX2_behind_70 (fun H locs hT hS oq70 he70 hk70 => ?_)
          refine lv_aload_n hx hb dX2_behind_71 rfl (lv_at hl 0 rfl) ?_
          refine ti_getE (ci := 2) (v := .ref v55) hx hb hts inlX2 hown hK (hm55.kept (oq70 _ (ne_r ha0 hv58 rfl))) rfl (by decide) (hts _ kw_111) (fun _ h9 => h9) dX2_behind_72 ?_
          refine ti_getr hx hb hts inlX4 hown hK hT hv55 rfl rfl rfl 4 (by decide) (hts _ kw_907) (fun _ h9 => h9) rfl dX2_behind_75 (fun v75 hv75 hm75 => ?_)
          refine lv_iload hx hb dX2_behind_78 (lv_at hl 6 rfl) ?_
          refine lv_iconst (v := 0) hx hb dX2_behind_80 (by decide) ?_
          refine ti_iast hx hb (aT0 hK) hT hS hv75 rfl rfl hj45_L6_51l (by decide) (fun _ _ _ => ⟨_, _, rfl, by decide, by decide⟩) (iv_c (x := (0 : Int32)) (k := 0) (by decide)) (fun _ _ => trivial) dX2_behind_81 (fun H locs hT hS oq81 he81 hk81 => ?_)
          obtain ⟨v82, e82⟩ : ∃ y : Int32, y = j45_L6 + 1 := ⟨_, rfl⟩
          have hv82 : iv v82 1 8 := by rw [e82]; exact iv_w (iv_add hj45_L6_51l (iv_c (x := (1 : Int32)) (k := 1) (by decide)) (by decide)) (by decide)
          have s82 : v82.toInt = j45_L6.toInt + 1 := by rw [e82, iv_addE hj45_L6_51l (iv_c (x := (1 : Int32)) (k := 1) (by decide)) (by decide)]; rfl
          refine lv_iinc (v := v82) (lv' := [(6, .int v82), (0, .ref a0), (1, .ref a1), (2, .int x2), (3, .int x3), (4, .int x4), (5, .int x5)]) hx hb dX2_behind_82 hl (k := 6) rfl (by rw [e82]; rfl) (by decide) rfl (fun ls hl => ?_)
          refine lv_goto (tgt := 45) hx hb dX2_behind_85 (by decide) ?_
          exact ih45 v82 _ _ _ (ms_up hms45 (by have := s82; omega) (iv_w (c := 1) (d := 8) hv82 (by decide)).2) (iv_w hv82 (by decide)) hT hS (lv_sub hl [1, 2, 3, 4, 5, 6, 0] rfl)
    refine lv_istore (lv' := [(6, .int (0 : Int32)), (0, .ref a0), (1, .ref a1), (2, .int x2), (3, .int x3), (4, .int x4), (5, .int x5)]) hx hb dX2_behind_43 hl (by decide) rfl (fun ls hl => ?_)
    exact J45 _ (0 : Int32) _ _ _ (Nat.lt_succ_self _) (iv_w (iv_c (x := (0 : Int32)) (k := 0) (by decide)) (by decide)) hT hS (lv_sub hl [1, 2, 3, 4, 5, 6, 0] rfl)
  · skip
    have kl0 : (0 : Int32).toInt = 0 := by decide
    have f4 := i_eq c4
    have hv1_4l : iv v1 0 0 := iv_eql hv1 (iv_c (x := (0 : Int32)) (k := 0) (by decide)) c4 (by decide)
    refine lv_iload_n hx hb dX2_behind_7 rfl (lv_at hl 2 rfl) ?_
    exact ret _ _ _ _ _ dX2_behind_8 (hT) hS
set_option maxHeartbeats 4000000 in
set_option maxRecDepth 100000 in
theorem t_X3_pleasure (l : Launch) {D : va_G} {c0 : Nat → ClassId} {Y : Nat → Option Nat} {ν : Nat → Nat} {H : Heap} (hT : TI D vwCl (tysOf c0) (RTg ν) Y H) {a0 : Nat} (ha0 : Y a0 = some 3) {x1 : Int32} (hx1 : iv x1 (-2147483648) 2147483647) {x2 : Int32} (hx2 : iv x2 (-2147483648) 2147483647) : Met l yX3_pleasure (wz yX3_pleasure cX3_pleasure 6 (some .int)) { frames := 0, cells := 0, slots := 0, locals := 0 } (TP D vwCl (tysOf c0) H [.ref a0, .int x1, .int x2]) (TQi (fun x H' => H' = H) Y []) 0 0 (pW Y []) := by
  refine Met.ofW (cc := cX3_pleasure) (maxL := 6) (ret := (some .int)) (by decide) rfl ?_
  intro p e s m args below meth c s₁ B hml hv
  obtain ⟨rfl, rfl, hK⟩ := hv
  have hx := B.exec
  have hb := B.bytes
  have hr := B.returns
  have hts : ∀ w ∈ wq, w.before _ s = true := fun w h => atoms_spec (ws := wz yX3_pleasure cX3_pleasure 6 (some .int)) B.pre w (List.mem_cons_of_mem _ h)
  have hown : s.vm.findClass RX3 = some m.cls := findClass_of_methodNamed B.named
  have hlocks := B.notSynchronized
  obtain ⟨R, hR⟩ : ∃ R : Room, R = ({ frames := 0, cells := 0, slots := 0, locals := 0 } : Room) := ⟨_, rfl⟩
  rw [show (headSpec (wz yX3_pleasure cX3_pleasure 6 (some .int)) { frames := 0, cells := 0, slots := 0, locals := 0 }).room = R from hR.symm]
  refine ti_mi hx hb hr hlocks (fun Q ret => ?_)
  have hl := lv_entry [.ref a0, .int x1, .int x2] (n := 6) (Nat.le_of_ble_eq_true rfl)
  rw [lg_entry_eq]
  generalize (lg_sl [.ref a0, .int x1, .int x2] ++ List.replicate (6 - (lg_sl [.ref a0, .int x1, .int x2]).length) Slot.unset).toArray = ls at hl ⊢
  have hl : lv_has ls 6 [(0, .ref a0), (1, .int x1), (2, .int x2)] := hl
  have hS : va_S (pW Y []) s.heap s.heap [] := va_S.rf
  refine lv_iload_n hx hb dX3_pleasure_0 rfl (lv_at hl 1 rfl) ?_
  have J13 : ∀ (j13_S0 : Int32) (locs : List Loc) (ls : Array Slot), iv j13_S0 (-2147483648) 2147483647 → va_S (pW Y []) s.heap s.heap locs → lv_has ls 6 [(0, .ref a0), (1, .int x1), (2, .int x2)] → W p l e R s m ([.ref a0, .int x1, .int x2] : List Value).toArray below meth c s.heap locs 0 0 Q (F0 m 13 ls [.int j13_S0]) := by
    intro j13_S0 locs ls hj13_S0 hS hl
    refine lv_istore_n (lv' := [(3, .int j13_S0), (0, .ref a0), (1, .int x1), (2, .int x2)]) hx hb dX3_pleasure_13 rfl hl (by decide) rfl (fun ls hl => ?_)
    refine lv_aload_n hx hb dX3_pleasure_14 rfl (lv_at hl 1 rfl) ?_
    refine ti_geti hx hb hts inlX3 hown hK hT ha0 rfl rfl rfl 8 (by decide) (hts _ kw_372) (fun _ h9 => h9) rfl dX3_pleasure_15 (fun v15 hv15 hm15 => ?_)
    refine lv_istore (lv' := [(4, .int v15), (3, .int j13_S0), (0, .ref a0), (1, .int x1), (2, .int x2)]) hx hb dX3_pleasure_18 hl (by decide) rfl (fun ls hl => ?_)
    refine lv_iconst (v := 0) hx hb dX3_pleasure_20 (by decide) ?_
    have J23 : ∀ (n : Nat) (j23_L3 : Int32) (j23_L4 : Int32) (j23_L5 : Int32) (locs : List Loc) (ls : Array Slot), (2147483647 - j23_L5.toInt).toNat < n → iv j23_L3 (-2147483648) 2147483647 → iv j23_L4 (-2147483648) 2147483647 → iv j23_L5 0 2147483647 → va_S (pW Y []) s.heap s.heap locs → lv_has ls 6 [(0, .ref a0), (1, .int x1), (2, .int x2), (3, .int j23_L3), (4, .int j23_L4), (5, .int j23_L5)] → W p l e R s m ([.ref a0, .int x1, .int x2] : List Value).toArray below meth c s.heap locs 0 0 Q (F0 m 23 ls []) := by
      intro n
      induction n with
      | zero => intro j23_L3 j23_L4 j23_L5 locs ls hms; exact absurd hms (Nat.not_lt_zero _)
      | succ n ih23 =>
        intro j23_L3 j23_L4 j23_L5 locs ls hms23 hj23_L3 hj23_L4 hj23_L5 hS hl
        refine lv_iload hx hb dX3_pleasure_23 (lv_at hl 5 rfl) ?_
        refine lv_iload_n hx hb dX3_pleasure_25 rfl (lv_at hl 2 rfl) ?_
        refine lv_icmp_ge (tgt := 54) hx hb dX3_pleasure_26 (by decide) (fun c26 => ?_) (fun c26 => ?_)
        · skip
          have f26 := i_le c26
          refine lv_iload_n hx hb dX3_pleasure_54 rfl (lv_at hl 3 rfl) ?_
          exact ret _ _ _ _ _ dX3_pleasure_55 (rfl) hS
        · skip
          have f26 := i_nle c26
          have hj23_L5_26l : iv j23_L5 0 2147483646 := iv_ltl hj23_L5 hx2 (Int32.not_le.mp c26) (by decide)
          have hx2_26r : iv x2 1 2147483647 := iv_ltr hj23_L5_26l hx2 (Int32.not_le.mp c26) (by decide)
          refine lv_iload hx hb dX3_pleasure_29 (lv_at hl 4 rfl) ?_
          refine lv_if_le (tgt := 54) hx hb dX3_pleasure_31 (by decide) (fun c31 => ?_) (fun c31 => ?_)
          · skip
            have kl0 : (0 : Int32).toInt = 0 := by decide
            have f31 := i_le c31
            have hj23_L4_31l : iv j23_L4 (-2147483648) 0 := iv_lel hj23_L4 (iv_c (x := (0 : Int32)) (k := 0) (by decide)) c31 (by decide)
            refine lv_iload_n hx hb dX3_pleasure_54 rfl (lv_at hl 3 rfl) ?_
            exact ret _ _ _ _ _ dX3_pleasure_55 (rfl) hS
          · skip
            have kl0 : (0 : Int32).toInt = 0 := by decide
            have f31 := i_nle c31
            have hj23_L4_31r : iv j23_L4 1 2147483647 := iv_ltr (iv_c (x := (0 : Int32)) (k := 0) (by decide)) hj23_L4 (Int32.not_le.mp c31) (by decide)
            refine lv_iload_n hx hb dX3_pleasure_34 rfl (lv_at hl 3 rfl) ?_
            refine lv_iload hx hb dX3_pleasure_35 (lv_at hl 4 rfl) ?_
            refine lv_iadd hx hb dX3_pleasure_37 ?_
            refine lv_topi (fun v37 e37 => ?_)
            have hv37 : iv v37 (-2147483648) 2147483647 := iv_top _
            refine lv_istore_n (lv' := [(3, .int v37), (0, .ref a0), (1, .int x1), (2, .int x2), (4, .int j23_L4), (5, .int j23_L5)]) hx hb dX3_pleasure_38 rfl hl (by decide) rfl (fun ls hl => ?_)
            refine lv_iload hx hb dX3_pleasure_39 (lv_at hl 4 rfl) ?_
            refine lv_aload_n hx hb dX3_pleasure_41 rfl (lv_at hl 1 rfl) ?_
            refine ti_geti hx hb hts inlX3 hown hK hT ha0 rfl rfl rfl 9 (by decide) (hts _ kw_373) (fun _ h9 => h9) rfl dX3_pleasure_42 (fun v42 hv42 hm42 => ?_)
            refine lv_isub hx hb dX3_pleasure_45 ?_
            refine lv_topi (fun v45 e45 => ?_)
            have hv45 : iv v45 (-2147483648) 2147483647 := iv_top _
            refine lv_istore (lv' := [(4, .int v45), (3, .int v37), (0, .ref a0), (1, .int x1), (2, .int x2), (5, .int j23_L5)]) hx hb dX3_pleasure_46 hl (by decide) rfl (fun ls hl => ?_)
            obtain ⟨v48, e48⟩ : ∃ y : Int32, y = j23_L5 + 1 := ⟨_, rfl⟩
            have hv48 : iv v48 1 2147483647 := by rw [e48]; exact iv_w (iv_add hj23_L5_26l (iv_c (x := (1 : Int32)) (k := 1) (by decide)) (by decide)) (by decide)
            have s48 : v48.toInt = j23_L5.toInt + 1 := by rw [e48, iv_addE hj23_L5_26l (iv_c (x := (1 : Int32)) (k := 1) (by decide)) (by decide)]; rfl
            refine lv_iinc (v := v48) (lv' := [(5, .int v48), (4, .int v45), (3, .int v37), (0, .ref a0), (1, .int x1), (2, .int x2)]) hx hb dX3_pleasure_48 hl (k := 5) rfl (by rw [e48]; rfl) (by decide) rfl (fun ls hl => ?_)
            refine lv_goto (tgt := 23) hx hb dX3_pleasure_51 (by decide) ?_
            exact ih23 v37 v45 v48 _ _ (ms_up hms23 (by have := s48; omega) (iv_w (c := 1) (d := 2147483647) hv48 (by decide)).2) (iv_w hv37 (by decide)) (iv_w hv45 (by decide)) (iv_w hv48 (by decide))  hS (lv_sub hl [3, 4, 5, 2, 1, 0] rfl)
    refine lv_istore (lv' := [(5, .int (0 : Int32)), (4, .int v15), (3, .int j13_S0), (0, .ref a0), (1, .int x1), (2, .int x2)]) hx hb dX3_pleasure_21 hl (by decide) rfl (fun ls hl => ?_)
    exact J23 _ j13_S0 v15 (0 : Int32) _ _ (Nat.lt_succ_self _) (iv_w hj13_S0 (by decide)) (iv_w hv15 (by decide)) (iv_w (iv_c (x := (0 : Int32)) (k := 0) (by decide)) (by decide))  hS (lv_sub hl [3, 4, 5, 2, 1, 0] rfl)
  refine lv_if_ne (tgt := 8) hx hb dX3_pleasure_1 (by decide) (fun c1 => ?_) (fun c1 => ?_)
  · skip
    have kl0 : (0 : Int32).toInt = 0 := by decide
    have f1 := i_ne c1
    refine lv_aload_n hx hb dX3_pleasure_8 rfl (lv_at hl 0 rfl) ?_
    refine ti_geti hx hb hts inlX3 hown hK hT ha0 rfl rfl rfl 6 (by decide) (hts _ kw_370) (fun _ h9 => h9) rfl dX3_pleasure_9 (fun v9 hv9 hm9 => ?_)
    refine lv_ineg hx hb dX3_pleasure_12 ?_
    refine lv_topi (fun v12 e12 => ?_)
    have hv12 : iv v12 (-2147483648) 2147483647 := iv_top _
    exact J13 v12 _ _  (iv_w hv12 (by decide))  hS (lv_sub hl [0, 1, 2] rfl)
  · skip
    have kl0 : (0 : Int32).toInt = 0 := by decide
    have f1 := i_eq c1
    have hx1_1l : iv x1 0 0 := iv_eql hx1 (iv_c (x := (0 : Int32)) (k := 0) (by decide)) c1 (by decide)
    refine lv_iconst (v := 0) hx hb dX3_pleasure_4 (by decide) ?_
    refine lv_goto (tgt := 13) hx hb dX3_pleasure_5 (by decide) ?_
    exact J13 (0 : Int32) _ _  (iv_w (iv_c (x := (0 : Int32)) (k := 0) (by decide)) (by decide))  hS (lv_sub hl [0, 1, 2] rfl)
set_option maxHeartbeats 4000000 in
set_option maxRecDepth 100000 in
theorem t_X7_hasAfter (l : Launch) {D : va_G} {c0 : Nat → ClassId} {Y : Nat → Option Nat} {ν : Nat → Nat} {H : Heap} (hT : TI D vwCl (tysOf c0) (RTg ν) Y H) {a0 : Nat} (ha0 : Y a0 = some 7) {x1 : Int32} (hx1 : iv x1 0 7) {x2 : Int32} (hx2 : iv x2 (-2147483648) 2147483647) : Met l yX7_hasAfter (wz yX7_hasAfter cX7_hasAfter 4 (some .int)) { frames := 1, cells := 0, slots := 0, locals := 60 } (TP D vwCl (tysOf c0) H [.ref a0, .int x1, .int x2]) (TQi (fun x H' => H' = H ∧ iv x (-2147483648) 100000) Y []) 0 0 (pW Y []) := by
  refine Met.ofW (cc := cX7_hasAfter) (maxL := 4) (ret := (some .int)) (by decide) rfl ?_
  intro p e s m args below meth c s₁ B hml hv
  obtain ⟨rfl, rfl, hK⟩ := hv
  have hx := B.exec
  have hb := B.bytes
  have hr := B.returns
  have hts : ∀ w ∈ wq, w.before _ s = true := fun w h => atoms_spec (ws := wz yX7_hasAfter cX7_hasAfter 4 (some .int)) B.pre w (List.mem_cons_of_mem _ h)
  have hown : s.vm.findClass RX7 = some m.cls := findClass_of_methodNamed B.named
  have hlocks := B.notSynchronized
  obtain ⟨R, hR⟩ : ∃ R : Room, R = ({ frames := 1, cells := 0, slots := 0, locals := 60 } : Room) := ⟨_, rfl⟩
  rw [show (headSpec (wz yX7_hasAfter cX7_hasAfter 4 (some .int)) { frames := 1, cells := 0, slots := 0, locals := 60 }).room = R from hR.symm]
  refine ti_mi hx hb hr hlocks (fun Q ret => ?_)
  have hl := lv_entry [.ref a0, .int x1, .int x2] (n := 4) (Nat.le_of_ble_eq_true rfl)
  rw [lg_entry_eq]
  generalize (lg_sl [.ref a0, .int x1, .int x2] ++ List.replicate (4 - (lg_sl [.ref a0, .int x1, .int x2]).length) Slot.unset).toArray = ls at hl ⊢
  have hl : lv_has ls 4 [(0, .ref a0), (1, .int x1), (2, .int x2)] := hl
  have hS : va_S (pW Y []) s.heap s.heap [] := va_S.rf
  refine lv_aload_n hx hb dX7_hasAfter_0 rfl (lv_at hl 0 rfl) ?_
  refine ti_getr hx hb hts inlX7 hown hK hT ha0 rfl rfl rfl 8 (by decide) (hts _ kw_65) (fun _ h9 => h9) rfl dX7_hasAfter_1 (fun v1 hv1 hm1 => ?_)
  refine lv_iload_n hx hb dX7_hasAfter_4 rfl (lv_at hl 1 rfl) ?_
  refine ti_aald hx hb (aT6 hK) hT hv1 rfl hx1 (by decide) (fun _ _ _ => rfl) dX7_hasAfter_5 (fun v5 hv5 => ?_)
  refine lv_astore_n (lv' := [(3, .ref v5), (0, .ref a0), (1, .int x1), (2, .int x2)]) hx hb dX7_hasAfter_6 rfl hl (by decide) rfl (fun ls hl => ?_)
  refine lv_iload_n hx hb dX7_hasAfter_7 rfl (lv_at hl 3 rfl) ?_
  refine lv_if_ne (tgt := 18) hx hb dX7_hasAfter_8 (by decide) (fun c8 => ?_) (fun c8 => ?_)
  · skip
    have kl0 : (0 : Int32).toInt = 0 := by decide
    have f8 := i_ne c8
    refine lv_aload_n hx hb dX7_hasAfter_18 rfl (lv_at hl 1 rfl) ?_
    refine ti_geti hx hb hts inlX7 hown hK hT ha0 rfl rfl rfl 0 (by decide) (hts _ kw_85) (fun _ h9 => h9) rfl dX7_hasAfter_19 (fun v19 hv19 hm19 => ?_)
    refine lv_aload_n hx hb dX7_hasAfter_22 rfl (lv_at hl 0 rfl) ?_
    refine ti_geti hx hb hts inlX3 hown hK hT hv5 rfl rfl rfl 0 (by decide) (hts _ kw_702) (fun _ h9 => h9) rfl dX7_hasAfter_23 (fun v23 hv23 hm23 => ?_)
    refine lv_aload_n hx hb dX7_hasAfter_26 rfl (lv_at hl 0 rfl) ?_
    refine ti_geti hx hb hts inlX3 hown hK hT hv5 rfl rfl rfl 5 (by decide) (hts _ kw_765) (fun _ h9 => h9) rfl dX7_hasAfter_27 (fun v27 hv27 hm27 => ?_)
    refine lv_iadd hx hb dX7_hasAfter_30 ?_
    refine lv_topi (fun v30 e30 => ?_)
    have hv30 : iv v30 (-2147483648) 2147483647 := iv_top _
    refine va_mmin hx hb (by rw [hml]; exact hl.1.symm) hown (hts _ kw_709) (hts _ kw_211) (hts _ kw_212) (hts _ kw_213) (by rw [hR]; decide) (by rw [hR]; exact Nat.le_of_ble_eq_true rfl) (Nat.zero_le _) (Nat.zero_le _) dX7_hasAfter_31 ?_
    refine lv_topi (fun v31 e31 => ?_)
    have hv31 : iv v31 (-2147483648) 100000 := by rw [e31]; exact iv_min hv19 hv30 (by decide)
    exact ret _ _ _ _ _ dX7_hasAfter_34 (⟨rfl, iv_w hv31 (by decide)⟩) hS
  · skip
    have kl0 : (0 : Int32).toInt = 0 := by decide
    have f8 := i_eq c8
    have hx2_8l : iv x2 0 0 := iv_eql hx2 (iv_c (x := (0 : Int32)) (k := 0) (by decide)) c8 (by decide)
    refine lv_aload_n hx hb dX7_hasAfter_11 rfl (lv_at hl 0 rfl) ?_
    refine ti_geti hx hb hts inlX3 hown hK hT hv5 rfl rfl rfl 0 (by decide) (hts _ kw_702) (fun _ h9 => h9) rfl dX7_hasAfter_12 (fun v12 hv12 hm12 => ?_)
    refine lv_goto (tgt := 34) hx hb dX7_hasAfter_15 (by decide) ?_
    exact ret _ _ _ _ _ dX7_hasAfter_34 (⟨rfl, iv_w hv12 (by decide)⟩) hS
set_option maxHeartbeats 4000000 in
set_option maxRecDepth 100000 in
theorem t_X2_worthOf (l : Launch) {D : va_G} {c0 : Nat → ClassId} {Y : Nat → Option Nat} {ν : Nat → Nat} {H : Heap} (hT : TI D vwCl (tysOf c0) (RTg ν) Y H) {a0 : Nat} (ha0 : Y a0 = some 2) {a1 : Nat} (ha1 : Y a1 = some 7) {x2 : Int32} (hx2 : iv x2 (-2147483648) 2147483647) {x3 : Int32} (hx3 : iv x3 (-2147483648) 2147483647) {x4 : Int32} (hx4 : iv x4 (-2147483648) 2147483647) {x5 : Int32} (hx5 : iv x5 (-1) 7) (hi0 : 1 ≤ x4.toInt → 0 ≤ x5.toInt) : Met l yX2_worthOf (wz yX2_worthOf cX2_worthOf 9 (some .int)) { frames := 3, cells := 0, slots := 0, locals := 86 } (TP D vwCl (tysOf c0) H [.ref a0, .ref a1, .int x2, .int x3, .int x4, .int x5]) (TQi (fun x H' => TI D vwCl (tysOf c0) (RTg ν) Y H') Y [4, 29]) 0 0 (pW Y [4, 29]) := by
  refine Met.ofW (cc := cX2_worthOf) (maxL := 9) (ret := (some .int)) (by decide) rfl ?_
  intro p e s m args below meth c s₁ B hml hv
  obtain ⟨rfl, rfl, hK⟩ := hv
  have hx := B.exec
  have hb := B.bytes
  have hr := B.returns
  have hts : ∀ w ∈ wq, w.before _ s = true := fun w h => atoms_spec (ws := wz yX2_worthOf cX2_worthOf 9 (some .int)) B.pre w (List.mem_cons_of_mem _ h)
  have hown : s.vm.findClass RX2 = some m.cls := findClass_of_methodNamed B.named
  have hlocks := B.notSynchronized
  obtain ⟨R, hR⟩ : ∃ R : Room, R = ({ frames := 3, cells := 0, slots := 0, locals := 86 } : Room) := ⟨_, rfl⟩
  rw [show (headSpec (wz yX2_worthOf cX2_worthOf 9 (some .int)) { frames := 3, cells := 0, slots := 0, locals := 86 }).room = R from hR.symm]
  refine ti_mi hx hb hr hlocks (fun Q ret => ?_)
  have hl := lv_entry [.ref a0, .ref a1, .int x2, .int x3, .int x4, .int x5] (n := 9) (Nat.le_of_ble_eq_true rfl)
  rw [lg_entry_eq]
  generalize (lg_sl [.ref a0, .ref a1, .int x2, .int x3, .int x4, .int x5] ++ List.replicate (9 - (lg_sl [.ref a0, .ref a1, .int x2, .int x3, .int x4, .int x5]).length) Slot.unset).toArray = ls at hl ⊢
  have hl : lv_has ls 9 [(0, .ref a0), (1, .ref a1), (2, .int x2), (3, .int x3), (4, .int x4), (5, .int x5)] := hl
  refine ti_gen (P := fun H => TI D vwCl (tysOf c0) (RTg ν) Y H) (Y := Y) (ws := [4, 29]) hT (fun H locs hT hS => ?_)
  refine lv_aload_n hx hb dX2_worthOf_0 rfl (lv_at hl 1 rfl) ?_
  refine ti_getr hx hb hts inlX7 hown hK hT ha1 rfl rfl rfl 8 (by decide) (hts _ kw_875) (fun _ h9 => h9) rfl dX2_worthOf_1 (fun v1 hv1 hm1 => ?_)
  refine lv_aload_n hx hb dX2_worthOf_4 rfl (lv_at hl 0 rfl) ?_
  refine ti_geti hx hb hts inlX2 hown hK hT ha0 rfl rfl rfl 2 (by decide) (hts _ kw_870) (fun _ h9 => h9) rfl dX2_worthOf_5 (fun v5 hv5 hm5 => ?_)
  refine ti_aald hx hb (aT6 hK) hT hv1 rfl hv5 (by decide) (fun _ _ _ => rfl) dX2_worthOf_8 (fun v8 hv8 => ?_)
  refine lv_astore (lv' := [(6, .ref v8), (0, .ref a0), (1, .ref a1), (2, .int x2), (3, .int x3), (4, .int x4), (5, .int x5)]) hx hb dX2_worthOf_9 hl (by decide) rfl (fun ls hl => ?_)
  refine lv_aload_n hx hb dX2_worthOf_11 rfl (lv_at hl 2 rfl) ?_
  refine lv_aload_n hx hb dX2_worthOf_12 rfl (lv_at hl 1 rfl) ?_
  refine ti_getE (ci := 2) (v := .int v5) hx hb hts inlX2 hown hK hm5 rfl (by decide) (hts _ kw_870) (fun _ h9 => h9) dX2_worthOf_13 ?_
  refine lv_iload_n hx hb dX2_worthOf_16 rfl (lv_at hl 3 rfl) ?_
  refine ti_calli (va_runV (As := [.int v5, .int x2]) (rest := []) ⟨hx, hb, hml, hown, hts⟩ (t_X7_hasAfter l hT ha1 (iv_w hv5 (by decide)) (iv_w hx2 (by decide))) (cwV 2 hts (good_V kw_888 kw_762 kw_763 kw_19 kw_764) rfl rfl rfl (by decide +kernel) ⟨by rw [hR]; decide, by rw [hR]; decide⟩) (ti_preV hK hT ha1 rfl rfl) rfl rfl hl.1 rfl (lv_room (Nat.le_of_ble_eq_true rfl)) dX2_worthOf_17 ⟨Nat.zero_le _, Nat.zero_le _⟩) hS (pW_sub rfl) (fun v17 H1 locs hB hS _ hk17 => ?_)
  obtain ⟨hH, hv17⟩ := hB
  rw [hH] at hS ⊢
  refine lv_iload_n hx hb dX2_worthOf_20 rfl (lv_at hl 4 rfl) ?_
  refine lv_isub hx hb dX2_worthOf_21 ?_
  refine lv_topi (fun v21 e21 => ?_)
  have hv21 : iv v21 (-2147483648) 2147483647 := iv_top _
  refine lv_iload hx hb dX2_worthOf_22 (lv_at hl 5 rfl) ?_
  refine lv_isub hx hb dX2_worthOf_24 ?_
  refine lv_topi (fun v24 e24 => ?_)
  have hv24 : iv v24 (-2147483648) 2147483647 := iv_top _
  refine lv_istore (lv' := [(7, .int v24), (6, .ref v8), (0, .ref a0), (1, .ref a1), (2, .int x2), (3, .int x3), (4, .int x4), (5, .int x5)]) hx hb dX2_worthOf_25 hl (by decide) rfl (fun ls hl => ?_)
  refine lv_aload_n hx hb dX2_worthOf_27 rfl (lv_at hl 2 rfl) ?_
  refine lv_aload_n hx hb dX2_worthOf_28 rfl (lv_at hl 3 rfl) ?_
  refine lv_iload hx hb dX2_worthOf_29 (lv_at hl 0 rfl) ?_
  refine lv_aload hx hb dX2_worthOf_31 (lv_at hl 1 rfl) ?_
  refine ti_geti hx hb hts inlX3 hown hK hT hv8 rfl rfl rfl 1 (by decide) (hts _ kw_883) (fun _ h9 => h9) rfl dX2_worthOf_33 (fun v33 hv33 hm33 => ?_)
  refine lv_iload hx hb dX2_worthOf_36 (lv_at hl 6 rfl) ?_
  refine lv_iload hx hb dX2_worthOf_38 (lv_at hl 7 rfl) ?_
  refine ti_calli (va_runV (As := [.ref a1, .int v24, .int v33, .int x4, .int x5]) (rest := []) ⟨hx, hb, hml, hown, hts⟩ (t_X2_behind l hT ha0 ha1 (iv_w hv24 (by decide)) (iv_w hv33 (by decide)) (iv_w hx4 (by decide)) (iv_w hx5 (by decide)) (fun h9 => by have b0a := (hx4).1; have b0b := (hx4).2; have b1a := (hx5).1; have b1b := (hx5).2; omega)) (cwV 5 hts (good_V kw_898 kw_899 kw_900 kw_33 kw_901) rfl rfl rfl (by decide +kernel) ⟨by rw [hR]; decide, by rw [hR]; decide⟩) (ti_preV hK hT ha0 rfl rfl) rfl rfl hl.1 rfl (lv_room (Nat.le_of_ble_eq_true rfl)) dX2_worthOf_40 ⟨Nat.zero_le _, Nat.zero_le _⟩) hS (pW_sub rfl) (fun v40 H locs hB hS _ hk40 => ?_)
  have hT := hB
  refine lv_istore (lv' := [(8, .int v40), (7, .int v24), (6, .ref v8), (0, .ref a0), (1, .ref a1), (2, .int x2), (3, .int x3), (4, .int x4), (5, .int x5)]) hx hb dX2_worthOf_43 hl (by decide) rfl (fun ls hl => ?_)
  refine lv_aload hx hb dX2_worthOf_45 (lv_at hl 2 rfl) ?_
  refine lv_iload_n hx hb dX2_worthOf_47 rfl (lv_at hl 5 rfl) ?_
  refine lv_iload_n hx hb dX2_worthOf_48 rfl (lv_at hl 6 rfl) ?_
  refine ti_calli (va_runV (As := [.int x2, .int x3]) (rest := []) ⟨hx, hb, hml, hown, hts⟩ (t_X3_pleasure l hT hv8 (iv_w hx2 (by decide)) (iv_w hx3 (by decide))) (cwV 2 hts (good_V kw_889 kw_772 kw_773 kw_68 kw_774) rfl rfl rfl (by decide +kernel) ⟨by rw [hR]; decide, by rw [hR]; decide⟩) (ti_preV hK hT hv8 rfl rfl) rfl rfl hl.1 rfl (lv_room (Nat.le_of_ble_eq_true rfl)) dX2_worthOf_49 ⟨Nat.zero_le _, Nat.zero_le _⟩) hS (pW_sub rfl) (fun v49 H1 locs hB hS _ hk49 => ?_)
  have hH := hB
  rw [hH] at hS ⊢
  refine lv_aload hx hb dX2_worthOf_52 (lv_at hl 2 rfl) ?_
  refine ti_geti hx hb hts inlX3 hown hK hT hv8 rfl rfl rfl 7 (by decide) (hts _ kw_882) (fun _ h9 => h9) rfl dX2_worthOf_54 (fun v54 hv54 hm54 => ?_)
  refine lv_iload hx hb dX2_worthOf_57 (lv_at hl 0 rfl) ?_
  refine lv_imul hx hb dX2_worthOf_59 ?_
  refine lv_topi (fun v59 e59 => ?_)
  have hv59 : iv v59 (-2147483648) 2147483647 := iv_top _
  refine lv_iadd hx hb dX2_worthOf_60 ?_
  refine lv_topi (fun v60 e60 => ?_)
  have hv60 : iv v60 (-2147483648) 2147483647 := iv_top _
  exact ret _ _ _ _ _ dX2_worthOf_61 (hT) hS
set_option maxHeartbeats 4000000 in
set_option maxRecDepth 100000 in
theorem t_X2_worthOfHolding (l : Launch) {D : va_G} {c0 : Nat → ClassId} {Y : Nat → Option Nat} {ν : Nat → Nat} {H : Heap} (hT : TI D vwCl (tysOf c0) (RTg ν) Y H) {a0 : Nat} (ha0 : Y a0 = some 2) {a1 : Nat} (ha1 : Y a1 = some 7) {x2 : Int32} (hx2 : iv x2 (-2147483648) 2147483647) {x3 : Int32} (hx3 : iv x3 (-2147483648) 2147483647) : Met l yX2_worthOfHolding (wz yX2_worthOfHolding cX2_worthOfHolding 4 (some .int)) { frames := 3, cells := 0, slots := 0, locals := 86 } (TP D vwCl (tysOf c0) H [.ref a0, .ref a1, .int x2, .int x3]) (TQi (fun x H' => TI D vwCl (tysOf c0) (RTg ν) Y H') Y [4, 29]) 0 0 (pW Y [4, 29]) := by
  refine Met.ofW (cc := cX2_worthOfHolding) (maxL := 4) (ret := (some .int)) (by decide) rfl ?_
  intro p e s m args below meth c s₁ B hml hv
  obtain ⟨rfl, rfl, hK⟩ := hv
  have hx := B.exec
  have hb := B.bytes
  have hr := B.returns
  have hts : ∀ w ∈ wq, w.before _ s = true := fun w h => atoms_spec (ws := wz yX2_worthOfHolding cX2_worthOfHolding 4 (some .int)) B.pre w (List.mem_cons_of_mem _ h)
  have hown : s.vm.findClass RX2 = some m.cls := findClass_of_methodNamed B.named
  have hlocks := B.notSynchronized
  obtain ⟨R, hR⟩ : ∃ R : Room, R = ({ frames := 3, cells := 0, slots := 0, locals := 86 } : Room) := ⟨_, rfl⟩
  rw [show (headSpec (wz yX2_worthOfHolding cX2_worthOfHolding 4 (some .int)) { frames := 3, cells := 0, slots := 0, locals := 86 }).room = R from hR.symm]
  refine ti_mi hx hb hr hlocks (fun Q ret => ?_)
  have hl := lv_entry [.ref a0, .ref a1, .int x2, .int x3] (n := 4) (Nat.le_of_ble_eq_true rfl)
  rw [lg_entry_eq]
  generalize (lg_sl [.ref a0, .ref a1, .int x2, .int x3] ++ List.replicate (4 - (lg_sl [.ref a0, .ref a1, .int x2, .int x3]).length) Slot.unset).toArray = ls at hl ⊢
  have hl : lv_has ls 4 [(0, .ref a0), (1, .ref a1), (2, .int x2), (3, .int x3)] := hl
  refine ti_gen (P := fun H => TI D vwCl (tysOf c0) (RTg ν) Y H) (Y := Y) (ws := [4, 29]) hT (fun H locs hT hS => ?_)
  refine lv_aload_n hx hb dX2_worthOfHolding_0 rfl (lv_at hl 1 rfl) ?_
  refine ti_getr hx hb hts inlX7 hown hK hT ha1 rfl rfl rfl 8 (by decide) (hts _ kw_875) (fun _ h9 => h9) rfl dX2_worthOfHolding_1 (fun v1 hv1 hm1 => ?_)
  refine lv_aload_n hx hb dX2_worthOfHolding_4 rfl (lv_at hl 0 rfl) ?_
  refine ti_geti hx hb hts inlX2 hown hK hT ha0 rfl rfl rfl 2 (by decide) (hts _ kw_870) (fun _ h9 => h9) rfl dX2_worthOfHolding_5 (fun v5 hv5 hm5 => ?_)
  refine ti_aald hx hb (aT6 hK) hT hv1 rfl hv5 (by decide) (fun _ _ _ => rfl) dX2_worthOfHolding_8 (fun v8 hv8 => ?_)
  refine ti_geti hx hb hts inlX3 hown hK hT hv8 rfl rfl rfl 7 (by decide) (hts _ kw_882) (fun _ h9 => h9) rfl dX2_worthOfHolding_9 (fun v9 hv9 hm9 => ?_)
  refine lv_aload_n hx hb dX2_worthOfHolding_12 rfl (lv_at hl 0 rfl) ?_
  refine lv_aload_n hx hb dX2_worthOfHolding_13 rfl (lv_at hl 1 rfl) ?_
  refine lv_iload_n hx hb dX2_worthOfHolding_14 rfl (lv_at hl 2 rfl) ?_
  refine lv_iload_n hx hb dX2_worthOfHolding_15 rfl (lv_at hl 3 rfl) ?_
  refine lv_iconst (v := 0) hx hb dX2_worthOfHolding_16 (by decide) ?_
  refine lv_iconst (v := (-1)) hx hb dX2_worthOfHolding_17 (by decide) ?_
  have kl0 : (0 : Int32).toInt = 0 := by decide
  have klm1 : (-1 : Int32).toInt = (-1) := by decide
  refine ti_calli (va_runV (As := [.ref a1, .int x2, .int x3, .int (0 : Int32), .int (-1 : Int32)]) (rest := [.int v9]) ⟨hx, hb, hml, hown, hts⟩ (t_X2_behind l hT ha0 ha1 (iv_w hx2 (by decide)) (iv_w hx3 (by decide)) (iv_w (iv_c (x := (0 : Int32)) (k := 0) (by decide)) (by decide)) (iv_w (iv_c (x := (-1 : Int32)) (k := (-1)) (by decide)) (by decide)) (fun h9 => by omega)) (cwV 5 hts (good_V kw_898 kw_899 kw_900 kw_33 kw_901) rfl rfl rfl (by decide +kernel) ⟨by rw [hR]; decide, by rw [hR]; decide⟩) (ti_preV hK hT ha0 rfl rfl) rfl rfl hl.1 rfl (lv_room (Nat.le_of_ble_eq_true rfl)) dX2_worthOfHolding_18 ⟨Nat.zero_le _, Nat.zero_le _⟩) hS (pW_sub rfl) (fun v18 H locs hB hS _ hk18 => ?_)
  have hT := hB
  refine lv_imul hx hb dX2_worthOfHolding_21 ?_
  refine lv_topi (fun v21 e21 => ?_)
  have hv21 : iv v21 (-2147483648) 2147483647 := iv_top _
  exact ret _ _ _ _ _ dX2_worthOfHolding_22 (hT) hS
set_option maxHeartbeats 4000000 in
set_option maxRecDepth 100000 in
theorem t_X2_mostBehind (l : Launch) {D : va_G} {c0 : Nat → ClassId} {Y : Nat → Option Nat} {ν : Nat → Nat} {H : Heap} (hT : TI D vwCl (tysOf c0) (RTg ν) Y H) {a0 : Nat} (ha0 : Y a0 = some 2) {a1 : Nat} (ha1 : Y a1 = some 7) {x2 : Int32} (hx2 : iv x2 (-100000) 100000) : Met l yX2_mostBehind (wz yX2_mostBehind cX2_mostBehind 4 (some .int)) { frames := 0, cells := 0, slots := 0, locals := 0 } (TP D vwCl (tysOf c0) H [.ref a0, .ref a1, .int x2]) (TQi (fun x H' => H' = H ∧ iv x (-2147483648) 100000) Y []) 0 0 (pW Y []) := by
  refine Met.ofW (cc := cX2_mostBehind) (maxL := 4) (ret := (some .int)) (by decide) rfl ?_
  intro p e s m args below meth c s₁ B hml hv
  obtain ⟨rfl, rfl, hK⟩ := hv
  have hx := B.exec
  have hb := B.bytes
  have hr := B.returns
  have hts : ∀ w ∈ wq, w.before _ s = true := fun w h => atoms_spec (ws := wz yX2_mostBehind cX2_mostBehind 4 (some .int)) B.pre w (List.mem_cons_of_mem _ h)
  have hown : s.vm.findClass RX2 = some m.cls := findClass_of_methodNamed B.named
  have hlocks := B.notSynchronized
  obtain ⟨R, hR⟩ : ∃ R : Room, R = ({ frames := 0, cells := 0, slots := 0, locals := 0 } : Room) := ⟨_, rfl⟩
  rw [show (headSpec (wz yX2_mostBehind cX2_mostBehind 4 (some .int)) { frames := 0, cells := 0, slots := 0, locals := 0 }).room = R from hR.symm]
  refine ti_mi hx hb hr hlocks (fun Q ret => ?_)
  have hl := lv_entry [.ref a0, .ref a1, .int x2] (n := 4) (Nat.le_of_ble_eq_true rfl)
  rw [lg_entry_eq]
  generalize (lg_sl [.ref a0, .ref a1, .int x2] ++ List.replicate (4 - (lg_sl [.ref a0, .ref a1, .int x2]).length) Slot.unset).toArray = ls at hl ⊢
  have hl : lv_has ls 4 [(0, .ref a0), (1, .ref a1), (2, .int x2)] := hl
  have hS : va_S (pW Y []) s.heap s.heap [] := va_S.rf
  refine lv_aload_n hx hb dX2_mostBehind_0 rfl (lv_at hl 0 rfl) ?_
  refine ti_geti hx hb hts inlX2 hown hK hT ha0 rfl rfl rfl 3 (by decide) (hts _ kw_871) (fun _ h9 => h9) rfl dX2_mostBehind_1 (fun v1 hv1 hm1 => ?_)
  have J33 : ∀ (j33_S0 : Int32) (locs : List Loc) (ls : Array Slot), iv j33_S0 0 1 → va_S (pW Y []) s.heap s.heap locs → lv_has ls 4 [(0, .ref a0), (1, .ref a1), (2, .int x2)] → W p l e R s m ([.ref a0, .ref a1, .int x2] : List Value).toArray below meth c s.heap locs 0 0 Q (F0 m 33 ls [.int j33_S0]) := by
    intro j33_S0 locs ls hj33_S0 hS hl
    refine lv_istore_n (lv' := [(3, .int j33_S0), (0, .ref a0), (1, .ref a1), (2, .int x2)]) hx hb dX2_mostBehind_33 rfl hl (by decide) rfl (fun ls hl => ?_)
    refine lv_iload_n hx hb dX2_mostBehind_34 rfl (lv_at hl 0 rfl) ?_
    refine lv_if_eq (tgt := 45) hx hb dX2_mostBehind_35 (by decide) (fun c35 => ?_) (fun c35 => ?_)
    · skip
      have kl0 : (0 : Int32).toInt = 0 := by decide
      have f35 := i_eq c35
      have hj33_S0_35l : iv j33_S0 0 0 := iv_eql hj33_S0 (iv_c (x := (0 : Int32)) (k := 0) (by decide)) c35 (by decide)
      refine lv_iload_n hx hb dX2_mostBehind_45 rfl (lv_at hl 3 rfl) ?_
      exact ret _ _ _ _ _ dX2_mostBehind_46 (⟨rfl, iv_w hx2 (by decide)⟩) hS
    · skip
      have kl0 : (0 : Int32).toInt = 0 := by decide
      have f35 := i_ne c35
      have hj33_S0_35l : iv j33_S0 1 1 := iv_nel hj33_S0 (iv_c (x := (0 : Int32)) (k := 0) (by decide)) c35 (by decide)
      refine lv_aload_n hx hb dX2_mostBehind_38 rfl (lv_at hl 2 rfl) ?_
      refine ti_geti hx hb hts inlX7 hown hK hT ha1 rfl rfl rfl 0 (by decide) (hts _ kw_897) (fun _ h9 => h9) rfl dX2_mostBehind_39 (fun v39 hv39 hm39 => ?_)
      refine lv_goto (tgt := 46) hx hb dX2_mostBehind_42 (by decide) ?_
      exact ret _ _ _ _ _ dX2_mostBehind_46 (⟨rfl, iv_w hv39 (by decide)⟩) hS
  have J32 : ∀  (locs : List Loc) (ls : Array Slot), va_S (pW Y []) s.heap s.heap locs → lv_has ls 4 [(0, .ref a0), (1, .ref a1), (2, .int x2)] → W p l e R s m ([.ref a0, .ref a1, .int x2] : List Value).toArray below meth c s.heap locs 0 0 Q (F0 m 32 ls []) := by
    intro  locs ls  hS hl
    refine lv_iconst (v := 0) hx hb dX2_mostBehind_32 (by decide) ?_
    exact J33 (0 : Int32) _ _  (iv_w (iv_c (x := (0 : Int32)) (k := 0) (by decide)) (by decide))  hS (lv_sub hl [0, 1, 2] rfl)
  refine lv_if_eq (tgt := 32) hx hb dX2_mostBehind_4 (by decide) (fun c4 => ?_) (fun c4 => ?_)
  · skip
    have kl0 : (0 : Int32).toInt = 0 := by decide
    have f4 := i_eq c4
    have hv1_4l : iv v1 0 0 := iv_eql hv1 (iv_c (x := (0 : Int32)) (k := 0) (by decide)) c4 (by decide)
    exact J32  _ _    hS (lv_sub hl [0, 1, 2] rfl)
  · skip
    have kl0 : (0 : Int32).toInt = 0 := by decide
    have f4 := i_ne c4
    have hv1_4l : iv v1 1 1 := iv_nel hv1 (iv_c (x := (0 : Int32)) (k := 0) (by decide)) c4 (by decide)
    refine lv_aload_n hx hb dX2_mostBehind_7 rfl (lv_at hl 1 rfl) ?_
    refine ti_getr hx hb hts inlX7 hown hK hT ha1 rfl rfl rfl 6 (by decide) (hts _ kw_894) (fun _ h9 => h9) rfl dX2_mostBehind_8 (fun v8 hv8 hm8 => ?_)
    refine ti_geti hx hb hts inlX0 hown hK hT hv8 rfl rfl rfl 3 (by decide) (hts _ kw_895) (fun _ h9 => h9) rfl dX2_mostBehind_11 (fun v11 hv11 hm11 => ?_)
    have J28 : ∀  (locs : List Loc) (ls : Array Slot), va_S (pW Y []) s.heap s.heap locs → lv_has ls 4 [(0, .ref a0), (1, .ref a1), (2, .int x2)] → W p l e R s m ([.ref a0, .ref a1, .int x2] : List Value).toArray below meth c s.heap locs 0 0 Q (F0 m 28 ls []) := by
      intro  locs ls  hS hl
      refine lv_iconst (v := 1) hx hb dX2_mostBehind_28 (by decide) ?_
      refine lv_goto (tgt := 33) hx hb dX2_mostBehind_29 (by decide) ?_
      exact J33 (1 : Int32) _ _  (iv_w (iv_c (x := (1 : Int32)) (k := 1) (by decide)) (by decide))  hS (lv_sub hl [0, 1, 2] rfl)
    refine lv_if_ne (tgt := 28) hx hb dX2_mostBehind_14 (by decide) (fun c14 => ?_) (fun c14 => ?_)
    · skip
      have f14 := i_ne c14
      have hv11_14l : iv v11 1 1 := iv_nel hv11 (iv_c (x := (0 : Int32)) (k := 0) (by decide)) c14 (by decide)
      exact J28  _ _    hS (lv_sub hl [0, 1, 2] rfl)
    · skip
      have f14 := i_eq c14
      have hv11_14l : iv v11 0 0 := iv_eql hv11 (iv_c (x := (0 : Int32)) (k := 0) (by decide)) c14 (by decide)
      refine lv_aload_n hx hb dX2_mostBehind_17 rfl (lv_at hl 1 rfl) ?_
      refine ti_getE (ci := 7) (v := .ref v8) hx hb hts inlX7 hown hK hm8 rfl (by decide) (hts _ kw_894) (fun _ h9 => h9) dX2_mostBehind_18 ?_
      refine ti_geti hx hb hts inlX0 hown hK hT hv8 rfl rfl rfl 2 (by decide) (hts _ kw_896) (fun _ h9 => h9) rfl dX2_mostBehind_21 (fun v21 hv21 hm21 => ?_)
      refine lv_iconst (v := 1) hx hb dX2_mostBehind_24 (by decide) ?_
      refine lv_icmp_ne (tgt := 32) hx hb dX2_mostBehind_25 (by decide) (fun c25 => ?_) (fun c25 => ?_)
      · skip
        have kl1 : (1 : Int32).toInt = 1 := by decide
        have f25 := i_ne c25
        exact J32  _ _    hS (lv_sub hl [0, 1, 2] rfl)
      · skip
        have kl1 : (1 : Int32).toInt = 1 := by decide
        have f25 := i_eq c25
        have hv21_25l : iv v21 1 1 := iv_eql hv21 (iv_c (x := (1 : Int32)) (k := 1) (by decide)) c25 (by decide)
        exact J28  _ _    hS (lv_sub hl [0, 1, 2] rfl)
set_option maxHeartbeats 4000000 in
set_option maxRecDepth 100000 in
theorem t_X2_search (l : Launch) {D : va_G} {c0 : Nat → ClassId} {Y : Nat → Option Nat} {ν : Nat → Nat} {H : Heap} (hT : TI D vwCl (tysOf c0) (RTg ν) Y H) {a0 : Nat} (ha0 : Y a0 = some 2) {a1 : Nat} (ha1 : Y a1 = some 7) {x2 : Int32} (hx2 : iv x2 0 1) : Met l yX2_search (wz yX2_search cX2_search 12 none) { frames := 3, cells := 0, slots := 0, locals := 86 } (TP D vwCl (tysOf c0) H [.ref a0, .ref a1, .int x2]) (TQv (fun H' => TI D vwCl (tysOf c0) (RTg ν) Y H') Y [2, 4, 29]) 0 0 (pW Y [2, 4, 29]) := by
  refine Met.ofW (cc := cX2_search) (maxL := 12) (ret := none) (by decide) rfl ?_
  intro p e s m args below meth c s₁ B hml hv
  obtain ⟨rfl, rfl, hK⟩ := hv
  have hx := B.exec
  have hb := B.bytes
  have hr := B.returns
  have hts : ∀ w ∈ wq, w.before _ s = true := fun w h => atoms_spec (ws := wz yX2_search cX2_search 12 none) B.pre w (List.mem_cons_of_mem _ h)
  have hown : s.vm.findClass RX2 = some m.cls := findClass_of_methodNamed B.named
  have hlocks := B.notSynchronized
  obtain ⟨R, hR⟩ : ∃ R : Room, R = ({ frames := 3, cells := 0, slots := 0, locals := 86 } : Room) := ⟨_, rfl⟩
  rw [show (headSpec (wz yX2_search cX2_search 12 none) { frames := 3, cells := 0, slots := 0, locals := 86 }).room = R from hR.symm]
  refine ti_mv hx hb hr hlocks (fun Q ret => ?_)
  have hl := lv_entry [.ref a0, .ref a1, .int x2] (n := 12) (Nat.le_of_ble_eq_true rfl)
  rw [lg_entry_eq]
  generalize (lg_sl [.ref a0, .ref a1, .int x2] ++ List.replicate (12 - (lg_sl [.ref a0, .ref a1, .int x2]).length) Slot.unset).toArray = ls at hl ⊢
  have hl : lv_has ls 12 [(0, .ref a0), (1, .ref a1), (2, .int x2)] := hl
  refine ti_gen (P := fun H => TI D vwCl (tysOf c0) (RTg ν) Y H) (Y := Y) (ws := [2, 4, 29]) hT (fun H locs hT hS => ?_)
  refine lv_aload_n hx hb dX2_search_0 rfl (lv_at hl 1 rfl) ?_
  refine ti_getr hx hb hts inlX7 hown hK hT ha1 rfl rfl rfl 8 (by decide) (hts _ kw_875) (fun _ h9 => h9) rfl dX2_search_1 (fun v1 hv1 hm1 => ?_)
  refine lv_aload_n hx hb dX2_search_4 rfl (lv_at hl 0 rfl) ?_
  refine ti_geti hx hb hts inlX2 hown hK hT ha0 rfl rfl rfl 2 (by decide) (hts _ kw_870) (fun _ h9 => h9) rfl dX2_search_5 (fun v5 hv5 hm5 => ?_)
  refine ti_aald hx hb (aT6 hK) hT hv1 rfl hv5 (by decide) (fun _ _ _ => rfl) dX2_search_8 (fun v8 hv8 => ?_)
  refine lv_astore_n (lv' := [(3, .ref v8), (0, .ref a0), (1, .ref a1), (2, .int x2)]) hx hb dX2_search_9 rfl hl (by decide) rfl (fun ls hl => ?_)
  refine lv_aload_n hx hb dX2_search_10 rfl (lv_at hl 2 rfl) ?_
  refine lv_aload_n hx hb dX2_search_11 rfl (lv_at hl 1 rfl) ?_
  refine ti_getE (ci := 2) (v := .int v5) hx hb hts inlX2 hown hK hm5 rfl (by decide) (hts _ kw_870) (fun _ h9 => h9) dX2_search_12 ?_
  refine lv_iload_n hx hb dX2_search_15 rfl (lv_at hl 3 rfl) ?_
  refine ti_calli (va_runV (As := [.int v5, .int x2]) (rest := []) ⟨hx, hb, hml, hown, hts⟩ (t_X7_hasAfter l hT ha1 (iv_w hv5 (by decide)) (iv_w hx2 (by decide))) (cwV 2 hts (good_V kw_888 kw_762 kw_763 kw_19 kw_764) rfl rfl rfl (by decide +kernel) ⟨by rw [hR]; decide, by rw [hR]; decide⟩) (ti_preV hK hT ha1 rfl rfl) rfl rfl hl.1 rfl (lv_room (Nat.le_of_ble_eq_true rfl)) dX2_search_16 ⟨Nat.zero_le _, Nat.zero_le _⟩) hS (pW_sub rfl) (fun v16 H1 locs hB hS _ hk16 => ?_)
  obtain ⟨hH, hv16⟩ := hB
  rw [hH] at hS ⊢
  refine lv_istore (lv' := [(4, .int v16), (3, .ref v8), (0, .ref a0), (1, .ref a1), (2, .int x2)]) hx hb dX2_search_19 hl (by decide) rfl (fun ls hl => ?_)
  refine lv_iconst (v := 0) hx hb dX2_search_21 (by decide) ?_
  have J24 : ∀ (n : Nat) (j24_L5 : Int32) (H : Heap) (locs : List Loc) (ls : Array Slot), (100001 - j24_L5.toInt).toNat < n → iv j24_L5 0 100001 → TI D vwCl (tysOf c0) (RTg ν) Y H → va_S (pW Y [2, 4, 29]) s.heap H locs → lv_has ls 12 [(0, .ref a0), (1, .ref a1), (2, .int x2), (3, .ref v8), (4, .int v16), (5, .int j24_L5)] → W p l e R s m ([.ref a0, .ref a1, .int x2] : List Value).toArray below meth c H locs 0 0 Q (F0 m 24 ls []) := by
    intro n
    induction n with
    | zero => intro j24_L5 H locs ls hms; exact absurd hms (Nat.not_lt_zero _)
    | succ n ih24 =>
      intro j24_L5 H locs ls hms24 hj24_L5 hT hS hl
      refine lv_iload hx hb dX2_search_24 (lv_at hl 5 rfl) ?_
      refine lv_iload hx hb dX2_search_26 (lv_at hl 4 rfl) ?_
      refine lv_icmp_gt (tgt := 225) hx hb dX2_search_28 (by decide) (fun c28 => ?_) (fun c28 => ?_)
      · skip
        have f28 := i_lt c28
        exact ret _ _ _ _ dX2_search_225 (hT) hS
      · skip
        have f28 := i_nlt c28
        have hj24_L5_28l : iv j24_L5 0 100000 := iv_lel hj24_L5 hv16 (Int32.not_lt.mp c28) (by decide)
        have hv16_28r : iv v16 0 100000 := iv_ler hj24_L5_28l hv16 (Int32.not_lt.mp c28) (by decide)
        refine lv_aload_n hx hb dX2_search_31 rfl (lv_at hl 3 rfl) ?_
        refine lv_iload_n hx hb dX2_search_32 rfl (lv_at hl 2 rfl) ?_
        refine lv_iload hx hb dX2_search_33 (lv_at hl 5 rfl) ?_
        refine ti_calli (va_runV (As := [.int x2, .int j24_L5]) (rest := []) ⟨hx, hb, hml, hown, hts⟩ (t_X3_pleasure l hT hv8 (iv_w hx2 (by decide)) (iv_w hj24_L5_28l (by decide))) (cwV 2 hts (good_V kw_889 kw_772 kw_773 kw_68 kw_774) rfl rfl rfl (by decide +kernel) ⟨by rw [hR]; decide, by rw [hR]; decide⟩) (ti_preV hK hT hv8 rfl rfl) rfl rfl hl.1 rfl (lv_room (Nat.le_of_ble_eq_true rfl)) dX2_search_35 ⟨Nat.zero_le _, Nat.zero_le _⟩) hS (pW_sub rfl) (fun v35 H1 locs hB hS _ hk35 => ?_)
        have hH := hB
        rw [hH] at hS ⊢
        refine lv_istore (lv' := [(6, .int v35), (0, .ref a0), (1, .ref a1), (2, .int x2), (3, .ref v8), (4, .int v16), (5, .int j24_L5)]) hx hb dX2_search_38 hl (by decide) rfl (fun ls hl => ?_)
        refine lv_iconst (v := 0) hx hb dX2_search_40 (by decide) ?_
        have J43 : ∀ (n : Nat) (j43_L7 : Int32) (H : Heap) (locs : List Loc) (ls : Array Slot), (100001 - j43_L7.toInt).toNat < n → iv j43_L7 0 100001 → TI D vwCl (tysOf c0) (RTg ν) Y H → va_S (pW Y [2, 4, 29]) s.heap H locs → lv_has ls 12 [(0, .ref a0), (1, .ref a1), (2, .int x2), (3, .ref v8), (4, .int v16), (5, .int j24_L5), (6, .int v35), (7, .int j43_L7)] → W p l e R s m ([.ref a0, .ref a1, .int x2] : List Value).toArray below meth c H locs 0 0 Q (F0 m 43 ls []) := by
          intro n
          induction n with
          | zero => intro j43_L7 H locs ls hms; exact absurd hms (Nat.not_lt_zero _)
          | succ n ih43 =>
            intro j43_L7 H locs ls hms43 hj43_L7 hT hS hl
            refine lv_iload hx hb dX2_search_43 (lv_at hl 7 rfl) ?_
            refine lv_iload hx hb dX2_search_45 (lv_at hl 4 rfl) ?_
            refine lv_iload hx hb dX2_search_47 (lv_at hl 5 rfl) ?_
            refine lv_isub hx hb dX2_search_49 ?_
            refine lv_topi (fun v49 e49 => ?_)
            have hv49 : iv v49 (-100000) 100000 := by rw [e49]; exact iv_w (iv_sub hv16_28r hj24_L5_28l (by decide)) (by decide)
            have s49 : v49.toInt = v16.toInt - j24_L5.toInt := by rw [e49]; exact iv_subE hv16_28r hj24_L5_28l (by decide)
            have J219 : ∀  (H : Heap) (locs : List Loc) (ls : Array Slot), TI D vwCl (tysOf c0) (RTg ν) Y H → va_S (pW Y [2, 4, 29]) s.heap H locs → lv_has ls 12 [(0, .ref a0), (1, .ref a1), (2, .int x2), (3, .ref v8), (4, .int v16), (5, .int j24_L5), (6, .int v35), (7, .int j43_L7)] → W p l e R s m ([.ref a0, .ref a1, .int x2] : List Value).toArray below meth c H locs 0 0 Q (F0 m 219 ls []) := by
              intro  H locs ls  hT hS hl
              obtain ⟨v219, e219⟩ : ∃ y : Int32, y = j24_L5 + 1 := ⟨_, rfl⟩
              have hv219 : iv v219 1 100001 := by rw [e219]; exact iv_w (iv_add hj24_L5_28l (iv_c (x := (1 : Int32)) (k := 1) (by decide)) (by decide)) (by decide)
              have s219 : v219.toInt = j24_L5.toInt + 1 := by rw [e219, iv_addE hj24_L5_28l (iv_c (x := (1 : Int32)) (k := 1) (by decide)) (by decide)]; rfl
              refine lv_iinc (v := v219) (lv' := [(5, .int v219), (0, .ref a0), (1, .ref a1), (2, .int x2), (3, .ref v8), (4, .int v16), (6, .int v35), (7, .int j43_L7)]) hx hb dX2_search_219 hl (k := 5) rfl (by rw [e219]; rfl) (by decide) rfl (fun ls hl => ?_)
              refine lv_goto (tgt := 24) hx hb dX2_search_222 (by decide) ?_
              exact ih24 v219 _ _ _ (ms_up hms24 (by have := s219; omega) (iv_w (c := 1) (d := 100001) hv219 (by decide)).2) (iv_w hv219 (by decide)) hT hS (lv_sub hl [1, 2, 3, 4, 5, 0] rfl)
            refine lv_icmp_gt (tgt := 219) hx hb dX2_search_50 (by decide) (fun c50 => ?_) (fun c50 => ?_)
            · skip
              have f50 := i_lt c50
              exact J219  _ _ _   hT hS (lv_sub hl [0, 1, 2, 3, 4, 5, 6, 7] rfl)
            · skip
              have f50 := i_nlt c50
              have hj43_L7_50l : iv j43_L7 0 100000 := iv_lel hj43_L7 hv49 (Int32.not_lt.mp c50) (by decide)
              have hv49_50r : iv v49 0 100000 := iv_ler hj43_L7_50l hv49 (Int32.not_lt.mp c50) (by decide)
              refine lv_iload hx hb dX2_search_53 (lv_at hl 4 rfl) ?_
              refine lv_iload hx hb dX2_search_55 (lv_at hl 5 rfl) ?_
              refine lv_isub hx hb dX2_search_57 ?_
              refine lv_topi (fun v57 e57 => ?_)
              have hv57 : iv v57 (-100000) 100000 := by rw [e57]; exact iv_w (iv_sub hv16_28r hj24_L5_28l (by decide)) (by decide)
              have s57 : v57.toInt = v16.toInt - j24_L5.toInt := by rw [e57]; exact iv_subE hv16_28r hj24_L5_28l (by decide)
              have hq57_42 : iv v57 0 100000 := by have b0a := (hv57).1; have b0b := (hv57).2; have b1a := (hv49_50r).1; have b1b := (hv49_50r).2; exact ⟨by omega, by omega⟩
              refine lv_iload hx hb dX2_search_58 (lv_at hl 7 rfl) ?_
              refine lv_isub hx hb dX2_search_60 ?_
              refine lv_topi (fun v60 e60 => ?_)
              have hv60 : iv v60 (-100000) 100000 := by rw [e60]; exact iv_w (iv_sub hq57_42 hj43_L7_50l (by decide)) (by decide)
              have s60 : v60.toInt = v57.toInt - j43_L7.toInt := by rw [e60]; exact iv_subE hq57_42 hj43_L7_50l (by decide)
              refine lv_istore (lv' := [(8, .int v60), (0, .ref a0), (1, .ref a1), (2, .int x2), (3, .ref v8), (4, .int v16), (5, .int j24_L5), (6, .int v35), (7, .int j43_L7)]) hx hb dX2_search_61 hl (by decide) rfl (fun ls hl => ?_)
              refine lv_iload hx hb dX2_search_63 (lv_at hl 7 rfl) ?_
              refine lv_aload_n hx hb dX2_search_65 rfl (lv_at hl 4 rfl) ?_
              refine ti_geti hx hb hts inlX3 hown hK hT hv8 rfl rfl rfl 7 (by decide) (hts _ kw_882) (fun _ h9 => h9) rfl dX2_search_66 (fun v66 hv66 hm66 => ?_)
              refine lv_aload_n hx hb dX2_search_69 rfl (lv_at hl 1 rfl) ?_
              refine lv_aload_n hx hb dX2_search_70 rfl (lv_at hl 2 rfl) ?_
              refine lv_iload hx hb dX2_search_71 (lv_at hl 0 rfl) ?_
              refine ti_calli (va_runV (As := [.ref a1, .int v60]) (rest := [.int v66, .int v35]) ⟨hx, hb, hml, hown, hts⟩ (t_X2_mostBehind l hT ha0 ha1 (iv_w hv60 (by decide))) (cwV 2 hts (good_V kw_890 kw_891 kw_892 kw_33 kw_893) rfl rfl rfl (by decide +kernel) ⟨by rw [hR]; decide, by rw [hR]; decide⟩) (ti_preV hK hT ha0 rfl rfl) rfl rfl hl.1 rfl (lv_room (Nat.le_of_ble_eq_true rfl)) dX2_search_73 ⟨Nat.zero_le _, Nat.zero_le _⟩) hS (pW_sub rfl) (fun v73 H1 locs hB hS _ hk73 => ?_)
              obtain ⟨hH, hv73⟩ := hB
              rw [hH] at hS ⊢
              refine lv_imul hx hb dX2_search_76 ?_
              refine lv_topi (fun v76 e76 => ?_)
              have hv76 : iv v76 (-2147483648) 2147483647 := iv_top _
              refine lv_iadd hx hb dX2_search_77 ?_
              refine lv_topi (fun v77 e77 => ?_)
              have hv77 : iv v77 (-2147483648) 2147483647 := iv_top _
              refine lv_aload_n hx hb dX2_search_78 rfl (lv_at hl 1 rfl) ?_
              refine ti_geti hx hb hts inlX2 hown hK hT ha0 rfl rfl rfl 4 (by decide) (hts _ kw_873) (fun _ h9 => h9) rfl dX2_search_79 (fun v79 hv79 hm79 => ?_)
              refine lv_icmp_gt (tgt := 88) hx hb dX2_search_82 (by decide) (fun c82 => ?_) (fun c82 => ?_)
              · skip
                have f82 := i_lt c82
                have hv79_82l : iv v79 (-2147483648) 2147483646 := iv_ltl hv79 hv77 c82 (by decide)
                have hv77_82r : iv v77 (-2147483647) 2147483647 := iv_ltr hv79_82l hv77 c82 (by decide)
                refine lv_iload hx hb dX2_search_88 (lv_at hl 8 rfl) ?_
                have J103 : ∀ (j103_S0 : Int32) (H : Heap) (locs : List Loc) (ls : Array Slot), iv j103_S0 (-1) 7 → TI D vwCl (tysOf c0) (RTg ν) Y H → va_S (pW Y [2, 4, 29]) s.heap H locs → lv_has ls 12 [(0, .ref a0), (1, .ref a1), (2, .int x2), (3, .ref v8), (4, .int v16), (5, .int j24_L5), (6, .int v35), (7, .int j43_L7), (8, .int v60)] → W p l e R s m ([.ref a0, .ref a1, .int x2] : List Value).toArray below meth c H locs 0 0 Q (F0 m 103 ls [.int j103_S0]) := by
                  intro j103_S0 H locs ls hj103_S0 hT hS hl
                  refine lv_istore (lv' := [(9, .int j103_S0), (0, .ref a0), (1, .ref a1), (2, .int x2), (3, .ref v8), (4, .int v16), (5, .int j24_L5), (6, .int v35), (7, .int j43_L7), (8, .int v60)]) hx hb dX2_search_103 hl (by decide) rfl (fun ls hl => ?_)
                  refine lv_iload hx hb dX2_search_105 (lv_at hl 8 rfl) ?_
                  have J115 : ∀ (j115_S0 : Int32) (H : Heap) (locs : List Loc) (ls : Array Slot), iv j115_S0 (-1) 0 → (1 ≤ j43_L7.toInt → 0 ≤ j115_S0.toInt ∧ j115_S0.toInt ≤ 0) → TI D vwCl (tysOf c0) (RTg ν) Y H → va_S (pW Y [2, 4, 29]) s.heap H locs → lv_has ls 12 [(0, .ref a0), (1, .ref a1), (2, .int x2), (3, .ref v8), (4, .int v16), (5, .int j24_L5), (6, .int v35), (7, .int j43_L7), (8, .int v60), (9, .int j103_S0)] → W p l e R s m ([.ref a0, .ref a1, .int x2] : List Value).toArray below meth c H locs 0 0 Q (F0 m 115 ls [.int j115_S0]) := by
                    intro j115_S0 H locs ls hj115_S0 hI115_0 hT hS hl
                    have J117 : ∀ (n : Nat) (j117_L10 : Int32) (H : Heap) (locs : List Loc) (ls : Array Slot), (8 - j117_L10.toInt).toNat < n → iv j117_L10 (-1) 8 → (1 ≤ j43_L7.toInt → 0 ≤ j117_L10.toInt ∧ j117_L10.toInt ≤ 8) → TI D vwCl (tysOf c0) (RTg ν) Y H → va_S (pW Y [2, 4, 29]) s.heap H locs → lv_has ls 12 [(0, .ref a0), (1, .ref a1), (2, .int x2), (3, .ref v8), (4, .int v16), (5, .int j24_L5), (6, .int v35), (7, .int j43_L7), (8, .int v60), (9, .int j103_S0), (10, .int j117_L10)] → W p l e R s m ([.ref a0, .ref a1, .int x2] : List Value).toArray below meth c H locs 0 0 Q (F0 m 117 ls []) := by
                      intro n
                      induction n with
                      | zero => intro j117_L10 H locs ls hms; exact absurd hms (Nat.not_lt_zero _)
                      | succ n ih117 =>
                        intro j117_L10 H locs ls hms117 hj117_L10 hI117_0 hT hS hl
                        refine lv_iload hx hb dX2_search_117 (lv_at hl 10 rfl) ?_
                        refine lv_iload hx hb dX2_search_119 (lv_at hl 9 rfl) ?_
                        refine lv_icmp_gt (tgt := 213) hx hb dX2_search_121 (by decide) (fun c121 => ?_) (fun c121 => ?_)
                        · skip
                          have f121 := i_lt c121
                          have hj117_L10_121r : iv j117_L10 0 8 := iv_ltr hj103_S0 hj117_L10 c121 (by decide)
                          obtain ⟨v213, e213⟩ : ∃ y : Int32, y = j43_L7 + 1 := ⟨_, rfl⟩
                          have hv213 : iv v213 1 100001 := by rw [e213]; exact iv_w (iv_add hj43_L7_50l (iv_c (x := (1 : Int32)) (k := 1) (by decide)) (by decide)) (by decide)
                          have s213 : v213.toInt = j43_L7.toInt + 1 := by rw [e213, iv_addE hj43_L7_50l (iv_c (x := (1 : Int32)) (k := 1) (by decide)) (by decide)]; rfl
                          refine lv_iinc (v := v213) (lv' := [(7, .int v213), (0, .ref a0), (1, .ref a1), (2, .int x2), (3, .ref v8), (4, .int v16), (5, .int j24_L5), (6, .int v35), (8, .int v60), (9, .int j103_S0), (10, .int j117_L10)]) hx hb dX2_search_213 hl (k := 7) rfl (by rw [e213]; rfl) (by decide) rfl (fun ls hl => ?_)
                          refine lv_goto (tgt := 43) hx hb dX2_search_216 (by decide) ?_
                          exact ih43 v213 _ _ _ (ms_up hms43 (by have := s213; omega) (iv_w (c := 1) (d := 100001) hv213 (by decide)).2) (iv_w hv213 (by decide)) hT hS (lv_sub hl [1, 2, 3, 4, 5, 6, 7, 0] rfl)
                        · skip
                          have f121 := i_nlt c121
                          have hj117_L10_121l : iv j117_L10 (-1) 7 := iv_lel hj117_L10 hj103_S0 (Int32.not_lt.mp c121) (by decide)
                          refine lv_iload hx hb dX2_search_124 (lv_at hl 10 rfl) ?_
                          refine lv_aload_n hx hb dX2_search_126 rfl (lv_at hl 0 rfl) ?_
                          refine ti_geti hx hb hts inlX2 hown hK hT ha0 rfl rfl rfl 2 (by decide) (hts _ kw_870) (fun _ h9 => h9) rfl dX2_search_127 (fun v127 hv127 hm127 => ?_)
                          have J207 : ∀  (H : Heap) (locs : List Loc) (ls : Array Slot), TI D vwCl (tysOf c0) (RTg ν) Y H → va_S (pW Y [2, 4, 29]) s.heap H locs → lv_has ls 12 [(0, .ref a0), (1, .ref a1), (2, .int x2), (3, .ref v8), (4, .int v16), (5, .int j24_L5), (6, .int v35), (7, .int j43_L7), (8, .int v60), (9, .int j103_S0), (10, .int j117_L10)] → W p l e R s m ([.ref a0, .ref a1, .int x2] : List Value).toArray below meth c H locs 0 0 Q (F0 m 207 ls []) := by
                            intro  H locs ls  hT hS hl
                            obtain ⟨v207, e207⟩ : ∃ y : Int32, y = j117_L10 + 1 := ⟨_, rfl⟩
                            have hv207 : iv v207 0 8 := by rw [e207]; exact iv_w (iv_add hj117_L10_121l (iv_c (x := (1 : Int32)) (k := 1) (by decide)) (by decide)) (by decide)
                            have s207 : v207.toInt = j117_L10.toInt + 1 := by rw [e207, iv_addE hj117_L10_121l (iv_c (x := (1 : Int32)) (k := 1) (by decide)) (by decide)]; rfl
                            refine lv_iinc (v := v207) (lv' := [(10, .int v207), (0, .ref a0), (1, .ref a1), (2, .int x2), (3, .ref v8), (4, .int v16), (5, .int j24_L5), (6, .int v35), (7, .int j43_L7), (8, .int v60), (9, .int j103_S0)]) hx hb dX2_search_207 hl (k := 10) rfl (by rw [e207]; rfl) (by decide) rfl (fun ls hl => ?_)
                            refine lv_goto (tgt := 117) hx hb dX2_search_210 (by decide) ?_
                            exact ih117 v207 _ _ _ (ms_up hms117 (by have := s207; omega) (iv_w (c := 0) (d := 8) hv207 (by decide)).2) (iv_w hv207 (by decide)) (fun h9 => by have b0a := (hj43_L7_50l).1; have b0b := (hj43_L7_50l).2; have b1a := (hv207).1; have b1b := (hv207).2; omega) hT hS (lv_sub hl [1, 2, 3, 4, 5, 6, 7, 8, 9, 10, 0] rfl)
                          refine lv_icmp_ne (tgt := 136) hx hb dX2_search_130 (by decide) (fun c130 => ?_) (fun c130 => ?_)
                          · skip
                            have f130 := i_ne c130
                            refine lv_aload_n hx hb dX2_search_136 rfl (lv_at hl 0 rfl) ?_
                            refine lv_aload_n hx hb dX2_search_137 rfl (lv_at hl 1 rfl) ?_
                            refine lv_iload hx hb dX2_search_138 (lv_at hl 8 rfl) ?_
                            refine lv_aload_n hx hb dX2_search_140 rfl (lv_at hl 3 rfl) ?_
                            refine ti_geti hx hb hts inlX3 hown hK hT hv8 rfl rfl rfl 1 (by decide) (hts _ kw_883) (fun _ h9 => h9) rfl dX2_search_141 (fun v141 hv141 hm141 => ?_)
                            refine lv_iload hx hb dX2_search_144 (lv_at hl 7 rfl) ?_
                            refine lv_iload hx hb dX2_search_146 (lv_at hl 10 rfl) ?_
                            refine ti_calli (va_runV (As := [.ref a1, .int v60, .int v141, .int j43_L7, .int j117_L10]) (rest := []) ⟨hx, hb, hml, hown, hts⟩ (t_X2_behind l hT ha0 ha1 (iv_w hv60 (by decide)) (iv_w hv141 (by decide)) (iv_w hj43_L7_50l (by decide)) (iv_w hj117_L10_121l (by decide)) (fun h9 => by have b0a := (hj43_L7_50l).1; have b0b := (hj43_L7_50l).2; have b1a := (hj117_L10_121l).1; have b1b := (hj117_L10_121l).2; omega)) (cwV 5 hts (good_V kw_898 kw_899 kw_900 kw_33 kw_901) rfl rfl rfl (by decide +kernel) ⟨by rw [hR]; decide, by rw [hR]; decide⟩) (ti_preV hK hT ha0 rfl rfl) rfl rfl hl.1 rfl (lv_room (Nat.le_of_ble_eq_true rfl)) dX2_search_148 ⟨Nat.zero_le _, Nat.zero_le _⟩) hS (pW_sub rfl) (fun v148 H locs hB hS _ hk148 => ?_)
                            have hT := hB
                            refine lv_istore (lv' := [(11, .int v148), (0, .ref a0), (1, .ref a1), (2, .int x2), (3, .ref v8), (4, .int v16), (5, .int j24_L5), (6, .int v35), (7, .int j43_L7), (8, .int v60), (9, .int j103_S0), (10, .int j117_L10)]) hx hb dX2_search_151 hl (by decide) rfl (fun ls hl => ?_)
                            refine lv_iload hx hb dX2_search_153 (lv_at hl 7 rfl) ?_
                            refine lv_aload_n hx hb dX2_search_155 rfl (lv_at hl 4 rfl) ?_
                            refine ti_geti hx hb hts inlX3 hown hK hT hv8 rfl rfl rfl 7 (by decide) (hts _ kw_882) (fun _ h9 => h9) rfl dX2_search_156 (fun v156 hv156 hm156 => ?_)
                            refine lv_iload hx hb dX2_search_159 (lv_at hl 0 rfl) ?_
                            refine lv_imul hx hb dX2_search_161 ?_
                            refine lv_topi (fun v161 e161 => ?_)
                            have hv161 : iv v161 (-2147483648) 2147483647 := iv_top _
                            refine lv_iadd hx hb dX2_search_162 ?_
                            refine lv_topi (fun v162 e162 => ?_)
                            have hv162 : iv v162 (-2147483648) 2147483647 := iv_top _
                            refine lv_aload_n hx hb dX2_search_163 rfl (lv_at hl 1 rfl) ?_
                            refine ti_geti hx hb hts inlX2 hown hK hT ha0 rfl rfl rfl 4 (by decide) (hts _ kw_873) (fun _ h9 => h9) rfl dX2_search_164 (fun v164 hv164 hm164 => ?_)
                            refine lv_icmp_le (tgt := 207) hx hb dX2_search_167 (by decide) (fun c167 => ?_) (fun c167 => ?_)
                            · skip
                              have f167 := i_le c167
                              exact J207  _ _ _   hT hS (lv_sub hl [1, 2, 3, 4, 5, 6, 7, 8, 9, 10, 11] rfl)
                            · skip
                              have f167 := i_nle c167
                              have hv164_167l : iv v164 (-2147483648) 2147483646 := iv_ltl hv164 hv162 (Int32.not_le.mp c167) (by decide)
                              have hv162_167r : iv v162 (-2147483647) 2147483647 := iv_ltr hv164_167l hv162 (Int32.not_le.mp c167) (by decide)
                              refine lv_aload_n hx hb dX2_search_170 rfl (lv_at hl 1 rfl) ?_
                              refine lv_iload hx hb dX2_search_171 (lv_at hl 7 rfl) ?_
                              refine lv_aload_n hx hb dX2_search_173 rfl (lv_at hl 4 rfl) ?_
                              refine ti_getE (ci := 3) (v := .int v156) hx hb hts inlX3 hown hK hm156 rfl (by decide) (hts _ kw_882) (fun _ h9 => h9) dX2_search_174 ?_
                              refine lv_iload hx hb dX2_search_177 (lv_at hl 0 rfl) ?_
                              refine lv_imul hx hb dX2_search_179 ?_
                              refine lv_topi (fun v179 e179 => ?_)
                              have hv179 : iv v179 (-2147483648) 2147483647 := iv_top _
                              refine lv_iadd hx hb dX2_search_180 ?_
                              refine lv_topi (fun v180 e180 => ?_)
                              have hv180 : iv v180 (-2147483648) 2147483647 := iv_top _
                              refine ti_put (ty := .int) hx hb hts inlX2 tyX2 tyX2_ok nmX2 hown hK hT hS ha0 rfl rfl rfl rfl 4 (by decide) (hts _ kw_873) (fun _ h9 => h9) rfl rfl (by decide +kernel) rfl rfl ⟨v180, rfl, iv_w hv180 (by decide)⟩ (mind_set (by decide) (by decide)) dX2_search_181 (fun H locs hT hS oq181 he181 hk181 => ?_)
                              refine lv_aload_n hx hb dX2_search_184 rfl (lv_at hl 1 rfl) ?_
                              refine lv_iload_n hx hb dX2_search_185 rfl (lv_at hl 3 rfl) ?_
                              refine ti_put (ty := .int) hx hb hts inlX2 tyX2 tyX2_ok nmX2 hown hK hT hS ha0 rfl rfl rfl rfl 5 (by decide) (hts _ kw_884) (fun _ h9 => h9) rfl rfl (by decide +kernel) rfl rfl ⟨x2, rfl, iv_w hx2 (by decide)⟩ (mind_set (by decide) (by decide)) dX2_search_186 (fun H locs hT hS oq186 he186 hk186 => ?_)
                              refine lv_aload_n hx hb dX2_search_189 rfl (lv_at hl 1 rfl) ?_
                              refine lv_iload hx hb dX2_search_190 (lv_at hl 6 rfl) ?_
                              refine ti_put (ty := .int) hx hb hts inlX2 tyX2 tyX2_ok nmX2 hown hK hT hS ha0 rfl rfl rfl rfl 6 (by decide) (hts _ kw_885) (fun _ h9 => h9) rfl rfl (by decide +kernel) rfl rfl ⟨j24_L5, rfl, iv_w hj24_L5_28l (by decide)⟩ (mind_set (by decide) (by decide)) dX2_search_192 (fun H locs hT hS oq192 he192 hk192 => ?_)
                              refine lv_aload_n hx hb dX2_search_195 rfl (lv_at hl 1 rfl) ?_
                              refine lv_iload hx hb dX2_search_196 (lv_at hl 8 rfl) ?_
                              obtain ⟨fs, hat, hln, -, -⟩ := ti_obj hT ha0 rfl
                              have hln : fs.length = 9 := hln
                              refine xput (ci := 2) (v := .int j43_L7) (ty := .int) (C := RX2) (T := TX2) (N := 9) (A := pW Y [2, 4, 29]) hx hb hts inlX2 tyX2 tyX2_ok nmX2 hown hK hat hS ⟨2, rfl, ha0⟩ rfl 7 (by decide) (hts _ kw_886) (fun _ h9 => h9) rfl (by omega) (by decide +kernel) rfl rfl dX2_search_198 (fun H1 locs hat1 hS oa => ?_)
                              refine lv_aload_n hx hb dX2_search_201 rfl (lv_at hl 1 rfl) ?_
                              refine lv_iload hx hb dX2_search_202 (lv_at hl 11 rfl) ?_
                              refine xput (ci := 2) (v := .int j117_L10) (ty := .int) (C := RX2) (T := TX2) (N := 9) (A := pW Y [2, 4, 29]) hx hb hts inlX2 tyX2 tyX2_ok nmX2 hown hK hat1 hS ⟨2, rfl, ha0⟩ rfl 8 (by decide) (hts _ kw_887) (fun _ h9 => h9) rfl (by rw [List.length_set]; omega) (by decide +kernel) rfl rfl dX2_search_204 (fun H locs hat2 hS ob => ?_)
                              have hT := mind_put hT ha0 hat hln hat2 oa ob (iv_w hj117_L10_121l (by decide)) (fun h9 => by have b0a := (hj43_L7_50l).1; have b0b := (hj43_L7_50l).2; have b1a := (hj117_L10_121l).1; have b1b := (hj117_L10_121l).2; omega)
                              exact J207  _ _ _   hT hS (lv_sub hl [1, 2, 3, 4, 5, 6, 7, 8, 9, 10, 11] rfl)
                          · skip
                            have f130 := i_eq c130
                            have hj117_L10_130l : iv j117_L10 0 7 := iv_eql hj117_L10_121l hv127 c130 (by decide)
                            refine lv_goto (tgt := 207) hx hb dX2_search_133 (by decide) ?_
                            exact J207  _ _ _   hT hS (lv_sub hl [0, 1, 2, 3, 4, 5, 6, 7, 8, 9, 10] rfl)
                    refine lv_istore (lv' := [(10, .int j115_S0), (0, .ref a0), (1, .ref a1), (2, .int x2), (3, .ref v8), (4, .int v16), (5, .int j24_L5), (6, .int v35), (7, .int j43_L7), (8, .int v60), (9, .int j103_S0)]) hx hb dX2_search_115 hl (by decide) rfl (fun ls hl => ?_)
                    exact J117 _ j115_S0 _ _ _ (Nat.lt_succ_self _) (iv_w hj115_S0 (by decide)) (fun h9 => by have b0a := (hj43_L7_50l).1; have b0b := (hj43_L7_50l).2; have b1a := (hj115_S0).1; have b1b := (hj115_S0).2; omega) hT hS (lv_sub hl [1, 2, 3, 4, 5, 6, 7, 8, 9, 10, 0] rfl)
                  refine lv_if_ne (tgt := 114) hx hb dX2_search_107 (by decide) (fun c107 => ?_) (fun c107 => ?_)
                  · skip
                    have kl0 : (0 : Int32).toInt = 0 := by decide
                    have f107 := i_ne c107
                    have hj43_L7_107l : iv j43_L7 1 100000 := iv_nel hj43_L7_50l (iv_c (x := (0 : Int32)) (k := 0) (by decide)) c107 (by decide)
                    refine lv_iconst (v := 0) hx hb dX2_search_114 (by decide) ?_
                    exact J115 (0 : Int32) _ _ _  (iv_w (iv_c (x := (0 : Int32)) (k := 0) (by decide)) (by decide)) (fun h9 => by have b0a := (hj43_L7_107l).1; have b0b := (hj43_L7_107l).2; omega) hT hS (lv_sub hl [1, 2, 3, 4, 5, 6, 7, 8, 9, 0] rfl)
                  · skip
                    have kl0 : (0 : Int32).toInt = 0 := by decide
                    have f107 := i_eq c107
                    have hj43_L7_107l : iv j43_L7 0 0 := iv_eql hj43_L7_50l (iv_c (x := (0 : Int32)) (k := 0) (by decide)) c107 (by decide)
                    refine lv_iconst (v := (-1)) hx hb dX2_search_110 (by decide) ?_
                    refine lv_goto (tgt := 115) hx hb dX2_search_111 (by decide) ?_
                    have klm1 : (-1 : Int32).toInt = (-1) := by decide
                    exact J115 (-1 : Int32) _ _ _  (iv_w (iv_c (x := (-1 : Int32)) (k := (-1)) (by decide)) (by decide)) (fun h9 => by have b0a := (hj43_L7_107l).1; have b0b := (hj43_L7_107l).2; omega) hT hS (lv_sub hl [1, 2, 3, 4, 5, 6, 7, 8, 9, 0] rfl)
                refine lv_if_ne (tgt := 97) hx hb dX2_search_90 (by decide) (fun c90 => ?_) (fun c90 => ?_)
                · skip
                  have kl0 : (0 : Int32).toInt = 0 := by decide
                  have f90 := i_ne c90
                  have hj43_L7_90l : iv j43_L7 1 100000 := iv_nel hj43_L7_50l (iv_c (x := (0 : Int32)) (k := 0) (by decide)) c90 (by decide)
                  refine lv_aload_n hx hb dX2_search_97 rfl (lv_at hl 2 rfl) ?_
                  refine ti_geti hx hb hts inlX7 hown hK hT ha1 rfl rfl rfl 1 (by decide) (hts _ kw_874) (fun _ h9 => h9) rfl dX2_search_98 (fun v98 hv98 hm98 => ?_)
                  refine lv_iconst (v := 1) hx hb dX2_search_101 (by decide) ?_
                  refine lv_isub hx hb dX2_search_102 ?_
                  refine lv_topi (fun v102 e102 => ?_)
                  have hv102 : iv v102 (-1) 7 := by rw [e102]; exact iv_w (iv_sub hv98 (iv_c (x := (1 : Int32)) (k := 1) (by decide)) (by decide)) (by decide)
                  have s102 : v102.toInt = v98.toInt - (1 : Int32).toInt := by rw [e102]; exact iv_subE hv98 (iv_c (x := (1 : Int32)) (k := 1) (by decide)) (by decide)
                  have kl1 : (1 : Int32).toInt = 1 := by decide
                  exact J103 v102 _ _ _  (iv_w hv102 (by decide)) hT hS (lv_sub hl [1, 2, 3, 4, 5, 6, 7, 8, 0] rfl)
                · skip
                  have kl0 : (0 : Int32).toInt = 0 := by decide
                  have f90 := i_eq c90
                  have hj43_L7_90l : iv j43_L7 0 0 := iv_eql hj43_L7_50l (iv_c (x := (0 : Int32)) (k := 0) (by decide)) c90 (by decide)
                  refine lv_iconst (v := (-1)) hx hb dX2_search_93 (by decide) ?_
                  refine lv_goto (tgt := 103) hx hb dX2_search_94 (by decide) ?_
                  exact J103 (-1 : Int32) _ _ _  (iv_w (iv_c (x := (-1 : Int32)) (k := (-1)) (by decide)) (by decide)) hT hS (lv_sub hl [1, 2, 3, 4, 5, 6, 7, 8, 0] rfl)
              · skip
                have f82 := i_nlt c82
                refine lv_goto (tgt := 219) hx hb dX2_search_85 (by decide) ?_
                exact J219  _ _ _   hT hS (lv_sub hl [1, 2, 3, 4, 5, 6, 7, 8] rfl)
        refine lv_istore (lv' := [(7, .int (0 : Int32)), (6, .int v35), (0, .ref a0), (1, .ref a1), (2, .int x2), (3, .ref v8), (4, .int v16), (5, .int j24_L5)]) hx hb dX2_search_41 hl (by decide) rfl (fun ls hl => ?_)
        exact J43 _ (0 : Int32) _ _ _ (Nat.lt_succ_self _) (iv_w (iv_c (x := (0 : Int32)) (k := 0) (by decide)) (by decide)) hT hS (lv_sub hl [2, 3, 4, 5, 6, 7, 1, 0] rfl)
  refine lv_istore (lv' := [(5, .int (0 : Int32)), (4, .int v16), (3, .ref v8), (0, .ref a0), (1, .ref a1), (2, .int x2)]) hx hb dX2_search_22 hl (by decide) rfl (fun ls hl => ?_)
  exact J24 _ (0 : Int32) _ _ _ (Nat.lt_succ_self _) (iv_w (iv_c (x := (0 : Int32)) (k := 0) (by decide)) (by decide)) hT hS (lv_sub hl [3, 4, 5, 2, 1, 0] rfl)
set_option maxHeartbeats 4000000 in
set_option maxRecDepth 100000 in
theorem t_X2_isRestless (l : Launch) {D : va_G} {c0 : Nat → ClassId} {Y : Nat → Option Nat} {ν : Nat → Nat} {H : Heap} (hT : TI D vwCl (tysOf c0) (RTg ν) Y H) {a0 : Nat} (ha0 : Y a0 = some 2) {a1 : Nat} (ha1 : Y a1 = some 7) {x2 : Int32} (hx2 : iv x2 0 7) : Met l yX2_isRestless (wz yX2_isRestless cX2_isRestless 4 (some .boolean)) { frames := 4, cells := 0, slots := 0, locals := 117 } (TP D vwCl (tysOf c0) H [.ref a0, .ref a1, .int x2]) (TQi (fun x H' => TI D vwCl (tysOf c0) (RTg ν) Y H' ∧ iv x 0 1) Y [2, 4, 29]) 0 0 (pW Y [2, 4, 29]) := by
  refine Met.ofW (cc := cX2_isRestless) (maxL := 4) (ret := (some .boolean)) (by decide) rfl ?_
  intro p e s m args below meth c s₁ B hml hv
  obtain ⟨rfl, rfl, hK⟩ := hv
  have hx := B.exec
  have hb := B.bytes
  have hr := B.returns
  have hts : ∀ w ∈ wq, w.before _ s = true := fun w h => atoms_spec (ws := wz yX2_isRestless cX2_isRestless 4 (some .boolean)) B.pre w (List.mem_cons_of_mem _ h)
  have hown : s.vm.findClass RX2 = some m.cls := findClass_of_methodNamed B.named
  have hlocks := B.notSynchronized
  obtain ⟨R, hR⟩ : ∃ R : Room, R = ({ frames := 4, cells := 0, slots := 0, locals := 117 } : Room) := ⟨_, rfl⟩
  rw [show (headSpec (wz yX2_isRestless cX2_isRestless 4 (some .boolean)) { frames := 4, cells := 0, slots := 0, locals := 117 }).room = R from hR.symm]
  refine ti_mz hx hb hr hlocks (fun Q ret => ?_)
  have hl := lv_entry [.ref a0, .ref a1, .int x2] (n := 4) (Nat.le_of_ble_eq_true rfl)
  rw [lg_entry_eq]
  generalize (lg_sl [.ref a0, .ref a1, .int x2] ++ List.replicate (4 - (lg_sl [.ref a0, .ref a1, .int x2]).length) Slot.unset).toArray = ls at hl ⊢
  have hl : lv_has ls 4 [(0, .ref a0), (1, .ref a1), (2, .int x2)] := hl
  refine ti_gen (P := fun H => TI D vwCl (tysOf c0) (RTg ν) Y H) (Y := Y) (ws := [2, 4, 29]) hT (fun H locs hT hS => ?_)
  refine lv_aload_n hx hb dX2_isRestless_0 rfl (lv_at hl 0 rfl) ?_
  refine lv_aload_n hx hb dX2_isRestless_1 rfl (lv_at hl 1 rfl) ?_
  refine lv_iload_n hx hb dX2_isRestless_2 rfl (lv_at hl 2 rfl) ?_
  refine lv_iconst (v := 0) hx hb dX2_isRestless_3 (by decide) ?_
  refine lv_iconst (v := 1) hx hb dX2_isRestless_4 (by decide) ?_
  refine ti_callv (va_runV (As := [.ref a1, .int x2, .int (0 : Int32), .int (1 : Int32)]) (rest := []) ⟨hx, hb, hml, hown, hts⟩ (t_X2_see l hT ha0 ha1 (iv_w hx2 (by decide)) (iv_w (iv_c (x := (0 : Int32)) (k := 0) (by decide)) (by decide)) (iv_w (iv_c (x := (1 : Int32)) (k := 1) (by decide)) (by decide))) (cwV 4 hts (good_V kw_1082 kw_867 kw_868 kw_33 kw_869) rfl rfl rfl (by decide +kernel) ⟨by rw [hR]; decide, by rw [hR]; decide⟩) (ti_preV hK hT ha0 rfl rfl) rfl rfl hl.1 rfl (lv_room (Nat.le_of_ble_eq_true rfl)) dX2_isRestless_5 ⟨Nat.zero_le _, Nat.zero_le _⟩) hS (pW_sub rfl) (fun H locs hB hS _ hk5 => ?_)
  have hT := hB
  refine lv_aload_n hx hb dX2_isRestless_8 rfl (lv_at hl 0 rfl) ?_
  refine lv_aload_n hx hb dX2_isRestless_9 rfl (lv_at hl 1 rfl) ?_
  refine lv_iconst (v := 0) hx hb dX2_isRestless_10 (by decide) ?_
  refine lv_iconst (v := 0) hx hb dX2_isRestless_11 (by decide) ?_
  refine lv_iconst (v := 0) hx hb dX2_isRestless_12 (by decide) ?_
  refine lv_iconst (v := (-1)) hx hb dX2_isRestless_13 (by decide) ?_
  have kl0 : (0 : Int32).toInt = 0 := by decide
  have klm1 : (-1 : Int32).toInt = (-1) := by decide
  refine ti_calli (va_runV (As := [.ref a1, .int (0 : Int32), .int (0 : Int32), .int (0 : Int32), .int (-1 : Int32)]) (rest := []) ⟨hx, hb, hml, hown, hts⟩ (t_X2_worthOf l hT ha0 ha1 (iv_w (iv_c (x := (0 : Int32)) (k := 0) (by decide)) (by decide)) (iv_w (iv_c (x := (0 : Int32)) (k := 0) (by decide)) (by decide)) (iv_w (iv_c (x := (0 : Int32)) (k := 0) (by decide)) (by decide)) (iv_w (iv_c (x := (-1 : Int32)) (k := (-1)) (by decide)) (by decide)) (fun h9 => by omega)) (cwV 5 hts (good_V kw_1083 kw_1006 kw_1007 kw_33 kw_1008) rfl rfl rfl (by decide +kernel) ⟨by rw [hR]; decide, by rw [hR]; decide⟩) (ti_preV hK hT ha0 rfl rfl) rfl rfl hl.1 rfl (lv_room (Nat.le_of_ble_eq_true rfl)) dX2_isRestless_14 ⟨Nat.zero_le _, Nat.zero_le _⟩) hS (pW_sub rfl) (fun v14 H locs hB hS _ hk14 => ?_)
  have hT := hB
  refine lv_istore_n (lv' := [(3, .int v14), (0, .ref a0), (1, .ref a1), (2, .int x2)]) hx hb dX2_isRestless_17 rfl hl (by decide) rfl (fun ls hl => ?_)
  refine lv_aload_n hx hb dX2_isRestless_18 rfl (lv_at hl 1 rfl) ?_
  refine lv_iload_n hx hb dX2_isRestless_19 rfl (lv_at hl 0 rfl) ?_
  refine ti_put (ty := .int) hx hb hts inlX2 tyX2 tyX2_ok nmX2 hown hK hT hS ha0 rfl rfl rfl rfl 4 (by decide) (hts _ kw_873) (fun _ h9 => h9) rfl rfl (by decide +kernel) rfl rfl ⟨v14, rfl, iv_w (iv_top v14) (by decide)⟩ (mind_set (by decide) (by decide)) dX2_isRestless_20 (fun H locs hT hS oq20 he20 hk20 => ?_)
  refine lv_aload_n hx hb dX2_isRestless_23 rfl (lv_at hl 1 rfl) ?_
  refine lv_aload_n hx hb dX2_isRestless_24 rfl (lv_at hl 2 rfl) ?_
  refine lv_iconst (v := 0) hx hb dX2_isRestless_25 (by decide) ?_
  refine ti_callv (va_runV (As := [.ref a1, .int (0 : Int32)]) (rest := []) ⟨hx, hb, hml, hown, hts⟩ (t_X2_search l hT ha0 ha1 (iv_w (iv_c (x := (0 : Int32)) (k := 0) (by decide)) (by decide))) (cwV 2 hts (good_V kw_1084 kw_879 kw_880 kw_33 kw_881) rfl rfl rfl (by decide +kernel) ⟨by rw [hR]; decide, by rw [hR]; decide⟩) (ti_preV hK hT ha0 rfl rfl) rfl rfl hl.1 rfl (lv_room (Nat.le_of_ble_eq_true rfl)) dX2_isRestless_26 ⟨Nat.zero_le _, Nat.zero_le _⟩) hS (pW_sub rfl) (fun H locs hB hS _ hk26 => ?_)
  have hT := hB
  refine lv_aload_n hx hb dX2_isRestless_29 rfl (lv_at hl 1 rfl) ?_
  refine ti_geti hx hb hts inlX2 hown hK hT ha0 rfl rfl rfl 4 (by decide) (hts _ kw_873) (fun _ h9 => h9) rfl dX2_isRestless_30 (fun v30 hv30 hm30 => ?_)
  refine lv_iload_n hx hb dX2_isRestless_33 rfl (lv_at hl 0 rfl) ?_
  refine lv_icmp_le (tgt := 41) hx hb dX2_isRestless_34 (by decide) (fun c34 => ?_) (fun c34 => ?_)
  · skip
    have f34 := i_le c34
    refine lv_iconst (v := 0) hx hb dX2_isRestless_41 (by decide) ?_
    exact ret _ _ _ _ _ dX2_isRestless_42 (iv_w (iv_c (x := (0 : Int32)) (k := 0) (by decide)) (by decide)) (⟨hT, iv_w (iv_c (x := (0 : Int32)) (k := 0) (by decide)) (by decide)⟩) hS
  · skip
    have f34 := i_nle c34
    have hv14_34l : iv v14 (-2147483648) 2147483646 := iv_ltl (iv_top v14) hv30 (Int32.not_le.mp c34) (by decide)
    have hv30_34r : iv v30 (-2147483647) 2147483647 := iv_ltr hv14_34l hv30 (Int32.not_le.mp c34) (by decide)
    refine lv_iconst (v := 1) hx hb dX2_isRestless_37 (by decide) ?_
    refine lv_goto (tgt := 42) hx hb dX2_isRestless_38 (by decide) ?_
    exact ret _ _ _ _ _ dX2_isRestless_42 (iv_w (iv_c (x := (1 : Int32)) (k := 1) (by decide)) (by decide)) (⟨hT, iv_w (iv_c (x := (1 : Int32)) (k := 1) (by decide)) (by decide)⟩) hS
set_option maxHeartbeats 4000000 in
set_option maxRecDepth 100000 in
theorem t_X3_copyFrom (l : Launch) {D : va_G} {c0 : Nat → ClassId} {Y : Nat → Option Nat} {ν : Nat → Nat} {H : Heap} (hT : TI D vwCl (tysOf c0) (RTg ν) Y H) {a0 : Nat} (ha0 : Y a0 = some 3) {a1 : Nat} (ha1 : Y a1 = some 3) : Met l yX3_copyFrom (wz yX3_copyFrom cX3_copyFrom 2 none) { frames := 0, cells := 0, slots := 0, locals := 0 } (TP D vwCl (tysOf c0) H [.ref a0, .ref a1]) (TQv (fun H' => TI D vwCl (tysOf c0) (RTg ν) Y H') Y [3]) 0 0 (pW Y [3]) := by
  refine Met.ofW (cc := cX3_copyFrom) (maxL := 2) (ret := none) (by decide) rfl ?_
  intro p e s m args below meth c s₁ B hml hv
  obtain ⟨rfl, rfl, hK⟩ := hv
  have hx := B.exec
  have hb := B.bytes
  have hr := B.returns
  have hts : ∀ w ∈ wq, w.before _ s = true := fun w h => atoms_spec (ws := wz yX3_copyFrom cX3_copyFrom 2 none) B.pre w (List.mem_cons_of_mem _ h)
  have hown : s.vm.findClass RX3 = some m.cls := findClass_of_methodNamed B.named
  have hlocks := B.notSynchronized
  obtain ⟨R, hR⟩ : ∃ R : Room, R = ({ frames := 0, cells := 0, slots := 0, locals := 0 } : Room) := ⟨_, rfl⟩
  rw [show (headSpec (wz yX3_copyFrom cX3_copyFrom 2 none) { frames := 0, cells := 0, slots := 0, locals := 0 }).room = R from hR.symm]
  refine ti_mv hx hb hr hlocks (fun Q ret => ?_)
  have hl := lv_entry [.ref a0, .ref a1] (n := 2) (Nat.le_of_ble_eq_true rfl)
  rw [lg_entry_eq]
  generalize (lg_sl [.ref a0, .ref a1] ++ List.replicate (2 - (lg_sl [.ref a0, .ref a1]).length) Slot.unset).toArray = ls at hl ⊢
  have hl : lv_has ls 2 [(0, .ref a0), (1, .ref a1)] := hl
  refine ti_gen (P := fun H => TI D vwCl (tysOf c0) (RTg ν) Y H) (Y := Y) (ws := [3]) hT (fun H locs hT hS => ?_)
  refine lv_aload_n hx hb dX3_copyFrom_0 rfl (lv_at hl 0 rfl) ?_
  refine lv_aload_n hx hb dX3_copyFrom_1 rfl (lv_at hl 1 rfl) ?_
  refine ti_geti hx hb hts inlX3 hown hK hT ha1 rfl rfl rfl 0 (by decide) (hts _ kw_364) (fun _ h9 => h9) rfl dX3_copyFrom_2 (fun v2 hv2 hm2 => ?_)
  refine ti_put (ty := .int) hx hb hts inlX3 tyX3 tyX3_ok nmX3 hown hK hT hS ha0 rfl rfl rfl rfl 0 (by decide) (hts _ kw_364) (fun _ h9 => h9) rfl rfl (by decide +kernel) rfl rfl ⟨v2, rfl, iv_w hv2 (by decide)⟩ (fun _ _ => trivial) dX3_copyFrom_5 (fun H locs hT hS oq5 he5 hk5 => ?_)
  refine lv_aload_n hx hb dX3_copyFrom_8 rfl (lv_at hl 0 rfl) ?_
  refine lv_aload_n hx hb dX3_copyFrom_9 rfl (lv_at hl 1 rfl) ?_
  refine ti_geti hx hb hts inlX3 hown hK hT ha1 rfl rfl rfl 1 (by decide) (hts _ kw_365) (fun _ h9 => h9) rfl dX3_copyFrom_10 (fun v10 hv10 hm10 => ?_)
  refine ti_put (ty := .int) hx hb hts inlX3 tyX3 tyX3_ok nmX3 hown hK hT hS ha0 rfl rfl rfl rfl 1 (by decide) (hts _ kw_365) (fun _ h9 => h9) rfl rfl (by decide +kernel) rfl rfl ⟨v10, rfl, iv_w hv10 (by decide)⟩ (fun _ _ => trivial) dX3_copyFrom_13 (fun H locs hT hS oq13 he13 hk13 => ?_)
  refine lv_aload_n hx hb dX3_copyFrom_16 rfl (lv_at hl 0 rfl) ?_
  refine lv_aload_n hx hb dX3_copyFrom_17 rfl (lv_at hl 1 rfl) ?_
  refine ti_geti hx hb hts inlX3 hown hK hT ha1 rfl rfl rfl 2 (by decide) (hts _ kw_366) (fun _ h9 => h9) rfl dX3_copyFrom_18 (fun v18 hv18 hm18 => ?_)
  refine ti_put (ty := .int) hx hb hts inlX3 tyX3 tyX3_ok nmX3 hown hK hT hS ha0 rfl rfl rfl rfl 2 (by decide) (hts _ kw_366) (fun _ h9 => h9) rfl rfl (by decide +kernel) rfl rfl ⟨v18, rfl, iv_w hv18 (by decide)⟩ (fun _ _ => trivial) dX3_copyFrom_21 (fun H locs hT hS oq21 he21 hk21 => ?_)
  refine lv_aload_n hx hb dX3_copyFrom_24 rfl (lv_at hl 0 rfl) ?_
  refine lv_aload_n hx hb dX3_copyFrom_25 rfl (lv_at hl 1 rfl) ?_
  refine ti_geti hx hb hts inlX3 hown hK hT ha1 rfl rfl rfl 3 (by decide) (hts _ kw_367) (fun _ h9 => h9) rfl dX3_copyFrom_26 (fun v26 hv26 hm26 => ?_)
  refine ti_put (ty := .int) hx hb hts inlX3 tyX3 tyX3_ok nmX3 hown hK hT hS ha0 rfl rfl rfl rfl 3 (by decide) (hts _ kw_367) (fun _ h9 => h9) rfl rfl (by decide +kernel) rfl rfl ⟨v26, rfl, iv_w hv26 (by decide)⟩ (fun _ _ => trivial) dX3_copyFrom_29 (fun H locs hT hS oq29 he29 hk29 => ?_)
  refine lv_aload_n hx hb dX3_copyFrom_32 rfl (lv_at hl 0 rfl) ?_
  refine lv_aload_n hx hb dX3_copyFrom_33 rfl (lv_at hl 1 rfl) ?_
  refine ti_geti hx hb hts inlX3 hown hK hT ha1 rfl rfl rfl 4 (by decide) (hts _ kw_368) (fun _ h9 => h9) rfl dX3_copyFrom_34 (fun v34 hv34 hm34 => ?_)
  refine ti_put (ty := .int) hx hb hts inlX3 tyX3 tyX3_ok nmX3 hown hK hT hS ha0 rfl rfl rfl rfl 4 (by decide) (hts _ kw_368) (fun _ h9 => h9) rfl rfl (by decide +kernel) rfl rfl ⟨v34, rfl, iv_w hv34 (by decide)⟩ (fun _ _ => trivial) dX3_copyFrom_37 (fun H locs hT hS oq37 he37 hk37 => ?_)
  refine lv_aload_n hx hb dX3_copyFrom_40 rfl (lv_at hl 0 rfl) ?_
  refine lv_aload_n hx hb dX3_copyFrom_41 rfl (lv_at hl 1 rfl) ?_
  refine ti_geti hx hb hts inlX3 hown hK hT ha1 rfl rfl rfl 5 (by decide) (hts _ kw_369) (fun _ h9 => h9) rfl dX3_copyFrom_42 (fun v42 hv42 hm42 => ?_)
  refine ti_put (ty := .int) hx hb hts inlX3 tyX3 tyX3_ok nmX3 hown hK hT hS ha0 rfl rfl rfl rfl 5 (by decide) (hts _ kw_369) (fun _ h9 => h9) rfl rfl (by decide +kernel) rfl rfl ⟨v42, rfl, iv_w hv42 (by decide)⟩ (fun _ _ => trivial) dX3_copyFrom_45 (fun H locs hT hS oq45 he45 hk45 => ?_)
  refine lv_aload_n hx hb dX3_copyFrom_48 rfl (lv_at hl 0 rfl) ?_
  refine lv_aload_n hx hb dX3_copyFrom_49 rfl (lv_at hl 1 rfl) ?_
  refine ti_geti hx hb hts inlX3 hown hK hT ha1 rfl rfl rfl 6 (by decide) (hts _ kw_370) (fun _ h9 => h9) rfl dX3_copyFrom_50 (fun v50 hv50 hm50 => ?_)
  refine ti_put (ty := .int) hx hb hts inlX3 tyX3 tyX3_ok nmX3 hown hK hT hS ha0 rfl rfl rfl rfl 6 (by decide) (hts _ kw_370) (fun _ h9 => h9) rfl rfl (by decide +kernel) rfl rfl ⟨v50, rfl, iv_w hv50 (by decide)⟩ (fun _ _ => trivial) dX3_copyFrom_53 (fun H locs hT hS oq53 he53 hk53 => ?_)
  refine lv_aload_n hx hb dX3_copyFrom_56 rfl (lv_at hl 0 rfl) ?_
  refine lv_aload_n hx hb dX3_copyFrom_57 rfl (lv_at hl 1 rfl) ?_
  refine ti_geti hx hb hts inlX3 hown hK hT ha1 rfl rfl rfl 7 (by decide) (hts _ kw_371) (fun _ h9 => h9) rfl dX3_copyFrom_58 (fun v58 hv58 hm58 => ?_)
  refine ti_put (ty := .int) hx hb hts inlX3 tyX3 tyX3_ok nmX3 hown hK hT hS ha0 rfl rfl rfl rfl 7 (by decide) (hts _ kw_371) (fun _ h9 => h9) rfl rfl (by decide +kernel) rfl rfl ⟨v58, rfl, iv_w hv58 (by decide)⟩ (fun _ _ => trivial) dX3_copyFrom_61 (fun H locs hT hS oq61 he61 hk61 => ?_)
  refine lv_aload_n hx hb dX3_copyFrom_64 rfl (lv_at hl 0 rfl) ?_
  refine lv_aload_n hx hb dX3_copyFrom_65 rfl (lv_at hl 1 rfl) ?_
  refine ti_geti hx hb hts inlX3 hown hK hT ha1 rfl rfl rfl 8 (by decide) (hts _ kw_372) (fun _ h9 => h9) rfl dX3_copyFrom_66 (fun v66 hv66 hm66 => ?_)
  refine ti_put (ty := .int) hx hb hts inlX3 tyX3 tyX3_ok nmX3 hown hK hT hS ha0 rfl rfl rfl rfl 8 (by decide) (hts _ kw_372) (fun _ h9 => h9) rfl rfl (by decide +kernel) rfl rfl ⟨v66, rfl, iv_w hv66 (by decide)⟩ (fun _ _ => trivial) dX3_copyFrom_69 (fun H locs hT hS oq69 he69 hk69 => ?_)
  refine lv_aload_n hx hb dX3_copyFrom_72 rfl (lv_at hl 0 rfl) ?_
  refine lv_aload_n hx hb dX3_copyFrom_73 rfl (lv_at hl 1 rfl) ?_
  refine ti_geti hx hb hts inlX3 hown hK hT ha1 rfl rfl rfl 9 (by decide) (hts _ kw_373) (fun _ h9 => h9) rfl dX3_copyFrom_74 (fun v74 hv74 hm74 => ?_)
  refine ti_put (ty := .int) hx hb hts inlX3 tyX3 tyX3_ok nmX3 hown hK hT hS ha0 rfl rfl rfl rfl 9 (by decide) (hts _ kw_373) (fun _ h9 => h9) rfl rfl (by decide +kernel) rfl rfl ⟨v74, rfl, iv_w hv74 (by decide)⟩ (fun _ _ => trivial) dX3_copyFrom_77 (fun H locs hT hS oq77 he77 hk77 => ?_)
  exact ret _ _ _ _ dX3_copyFrom_80 (hT) hS
set_option maxHeartbeats 4000000 in
set_option maxRecDepth 100000 in
theorem t_X3_setHas (l : Launch) {D : va_G} {c0 : Nat → ClassId} {Y : Nat → Option Nat} {ν : Nat → Nat} {H : Heap} (hT : TI D vwCl (tysOf c0) (RTg ν) Y H) {a0 : Nat} (ha0 : Y a0 = some 3) {x1 : Int32} (hx1 : iv x1 (-2147483648) 2147483647) {x2 : Int32} (hx2 : iv x2 (-2147483648) 100000) : Met l yX3_setHas (wz yX3_setHas cX3_setHas 4 none) { frames := 0, cells := 0, slots := 0, locals := 0 } (TP D vwCl (tysOf c0) H [.ref a0, .int x1, .int x2]) (TQv (fun H' => TI D vwCl (tysOf c0) (RTg ν) Y H') Y [3]) 0 0 (pW Y [3]) := by
  refine Met.ofW (cc := cX3_setHas) (maxL := 4) (ret := none) (by decide) rfl ?_
  intro p e s m args below meth c s₁ B hml hv
  obtain ⟨rfl, rfl, hK⟩ := hv
  have hx := B.exec
  have hb := B.bytes
  have hr := B.returns
  have hts : ∀ w ∈ wq, w.before _ s = true := fun w h => atoms_spec (ws := wz yX3_setHas cX3_setHas 4 none) B.pre w (List.mem_cons_of_mem _ h)
  have hown : s.vm.findClass RX3 = some m.cls := findClass_of_methodNamed B.named
  have hlocks := B.notSynchronized
  obtain ⟨R, hR⟩ : ∃ R : Room, R = ({ frames := 0, cells := 0, slots := 0, locals := 0 } : Room) := ⟨_, rfl⟩
  rw [show (headSpec (wz yX3_setHas cX3_setHas 4 none) { frames := 0, cells := 0, slots := 0, locals := 0 }).room = R from hR.symm]
  refine ti_mv hx hb hr hlocks (fun Q ret => ?_)
  have hl := lv_entry [.ref a0, .int x1, .int x2] (n := 4) (Nat.le_of_ble_eq_true rfl)
  rw [lg_entry_eq]
  generalize (lg_sl [.ref a0, .int x1, .int x2] ++ List.replicate (4 - (lg_sl [.ref a0, .int x1, .int x2]).length) Slot.unset).toArray = ls at hl ⊢
  have hl : lv_has ls 4 [(0, .ref a0), (1, .int x1), (2, .int x2)] := hl
  refine ti_gen (P := fun H => TI D vwCl (tysOf c0) (RTg ν) Y H) (Y := Y) (ws := [3]) hT (fun H locs hT hS => ?_)
  refine lv_iload_n hx hb dX3_setHas_0 rfl (lv_at hl 1 rfl) ?_
  refine lv_iload_n hx hb dX3_setHas_1 rfl (lv_at hl 2 rfl) ?_
  have J10 : ∀ (j10_S0 : Int32) (H : Heap) (locs : List Loc) (ls : Array Slot), iv j10_S0 (-2147483648) 100000 → TI D vwCl (tysOf c0) (RTg ν) Y H → va_S (pW Y [3]) s.heap H locs → lv_has ls 4 [(0, .ref a0), (1, .int x1), (2, .int x2)] → W p l e R s m ([.ref a0, .int x1, .int x2] : List Value).toArray below meth c H locs 0 0 Q (F0 m 10 ls [.int j10_S0]) := by
    intro j10_S0 H locs ls hj10_S0 hT hS hl
    refine lv_istore_n (lv' := [(3, .int j10_S0), (0, .ref a0), (1, .int x1), (2, .int x2)]) hx hb dX3_setHas_10 rfl hl (by decide) rfl (fun ls hl => ?_)
    refine lv_aload_n hx hb dX3_setHas_11 rfl (lv_at hl 1 rfl) ?_
    refine lv_iload_n hx hb dX3_setHas_12 rfl (lv_at hl 0 rfl) ?_
    have J21 : ∀ (j21_S1 : Int32) (H : Heap) (locs : List Loc) (ls : Array Slot), iv j21_S1 0 100000 → TI D vwCl (tysOf c0) (RTg ν) Y H → va_S (pW Y [3]) s.heap H locs → lv_has ls 4 [(0, .ref a0), (1, .int x1), (2, .int x2), (3, .int j10_S0)] → W p l e R s m ([.ref a0, .int x1, .int x2] : List Value).toArray below meth c H locs 0 0 Q (F0 m 21 ls [.int j21_S1, .ref a0]) := by
      intro j21_S1 H locs ls hj21_S1 hT hS hl
      refine ti_put (ty := .int) hx hb hts inlX3 tyX3 tyX3_ok nmX3 hown hK hT hS ha0 rfl rfl rfl rfl 0 (by decide) (hts _ kw_364) (fun _ h9 => h9) rfl rfl (by decide +kernel) rfl rfl ⟨j21_S1, rfl, iv_w hj21_S1 (by decide)⟩ (fun _ _ => trivial) dX3_setHas_21 (fun H locs hT hS oq21 he21 hk21 => ?_)
      refine lv_aload_n hx hb dX3_setHas_24 rfl (lv_at hl 0 rfl) ?_
      refine lv_aload_n hx hb dX3_setHas_25 rfl (lv_at hl 0 rfl) ?_
      refine ti_geti hx hb hts inlX3 hown hK hT ha0 rfl rfl rfl 1 (by decide) (hts _ kw_365) (fun _ h9 => h9) rfl dX3_setHas_26 (fun v26 hv26 hm26 => ?_)
      refine lv_aload_n hx hb dX3_setHas_29 rfl (lv_at hl 0 rfl) ?_
      refine ti_getE (ci := 3) (v := .int j21_S1) hx hb hts inlX3 hown hK he21 rfl (by decide) (hts _ kw_364) (fun _ h9 => h9) dX3_setHas_30 ?_
      have J47 : ∀ (j47_S1 : Int32) (H : Heap) (locs : List Loc) (ls : Array Slot), iv j47_S1 (-2147483648) 100000 → TI D vwCl (tysOf c0) (RTg ν) Y H → va_S (pW Y [3]) s.heap H locs → lv_has ls 4 [(0, .ref a0), (1, .int x1), (2, .int x2), (3, .int j10_S0)] → W p l e R s m ([.ref a0, .int x1, .int x2] : List Value).toArray below meth c H locs 0 0 Q (F0 m 47 ls [.int j47_S1, .ref a0]) := by
        intro j47_S1 H locs ls hj47_S1 hT hS hl
        refine ti_put (ty := .int) hx hb hts inlX3 tyX3 tyX3_ok nmX3 hown hK hT hS ha0 rfl rfl rfl rfl 1 (by decide) (hts _ kw_365) (fun _ h9 => h9) rfl rfl (by decide +kernel) rfl rfl ⟨j47_S1, rfl, iv_w hj47_S1 (by decide)⟩ (fun _ _ => trivial) dX3_setHas_47 (fun H locs hT hS oq47 he47 hk47 => ?_)
        exact ret _ _ _ _ dX3_setHas_50 (hT) hS
      refine lv_icmp_le (tgt := 43) hx hb dX3_setHas_33 (by decide) (fun c33 => ?_) (fun c33 => ?_)
      · skip
        have f33 := i_le c33
        have hv26_33l : iv v26 (-2147483648) 100000 := iv_lel hv26 hj21_S1 c33 (by decide)
        refine lv_aload_n hx hb dX3_setHas_43 rfl (lv_at hl 0 rfl) ?_
        refine ti_getE (ci := 3) (v := .int v26) hx hb hts inlX3 hown hK hm26 rfl (by decide) (hts _ kw_365) (fun _ h9 => h9) dX3_setHas_44 ?_
        exact J47 v26 _ _ _  (iv_w hv26_33l (by decide)) hT hS (lv_sub hl [0, 1, 2, 3] rfl)
      · skip
        have f33 := i_nle c33
        have hv26_33r : iv v26 1 2147483647 := iv_ltr hj21_S1 hv26 (Int32.not_le.mp c33) (by decide)
        refine lv_aload_n hx hb dX3_setHas_36 rfl (lv_at hl 0 rfl) ?_
        refine ti_getE (ci := 3) (v := .int j21_S1) hx hb hts inlX3 hown hK he21 rfl (by decide) (hts _ kw_364) (fun _ h9 => h9) dX3_setHas_37 ?_
        refine lv_goto (tgt := 47) hx hb dX3_setHas_40 (by decide) ?_
        exact J47 j21_S1 _ _ _  (iv_w hj21_S1 (by decide)) hT hS (lv_sub hl [0, 1, 2, 3] rfl)
    refine lv_if_ge (tgt := 20) hx hb dX3_setHas_13 (by decide) (fun c13 => ?_) (fun c13 => ?_)
    · skip
      have kl0 : (0 : Int32).toInt = 0 := by decide
      have f13 := i_le c13
      have hj10_S0_13r : iv j10_S0 0 100000 := iv_ler (iv_c (x := (0 : Int32)) (k := 0) (by decide)) hj10_S0 c13 (by decide)
      refine lv_iload_n hx hb dX3_setHas_20 rfl (lv_at hl 0 rfl) ?_
      exact J21 j10_S0 _ _ _  (iv_w hj10_S0_13r (by decide)) hT hS (lv_sub hl [1, 2, 3, 0] rfl)
    · skip
      have kl0 : (0 : Int32).toInt = 0 := by decide
      have f13 := i_nle c13
      have hj10_S0_13l : iv j10_S0 (-2147483648) (-1) := iv_ltl hj10_S0 (iv_c (x := (0 : Int32)) (k := 0) (by decide)) (Int32.not_le.mp c13) (by decide)
      refine lv_iconst (v := 0) hx hb dX3_setHas_16 (by decide) ?_
      refine lv_goto (tgt := 21) hx hb dX3_setHas_17 (by decide) ?_
      exact J21 (0 : Int32) _ _ _  (iv_w (iv_c (x := (0 : Int32)) (k := 0) (by decide)) (by decide)) hT hS (lv_sub hl [1, 2, 3, 0] rfl)
  refine lv_icmp_le (tgt := 9) hx hb dX3_setHas_2 (by decide) (fun c2 => ?_) (fun c2 => ?_)
  · skip
    have f2 := i_le c2
    have hx1_2l : iv x1 (-2147483648) 100000 := iv_lel hx1 hx2 c2 (by decide)
    refine lv_iload_n hx hb dX3_setHas_9 rfl (lv_at hl 1 rfl) ?_
    exact J10 x1 _ _ _  (iv_w hx1_2l (by decide)) hT hS (lv_sub hl [0, 1, 2] rfl)
  · skip
    have f2 := i_nle c2
    have hx1_2r : iv x1 (-2147483647) 2147483647 := iv_ltr hx2 hx1 (Int32.not_le.mp c2) (by decide)
    refine lv_iload_n hx hb dX3_setHas_5 rfl (lv_at hl 2 rfl) ?_
    refine lv_goto (tgt := 10) hx hb dX3_setHas_6 (by decide) ?_
    exact J10 x2 _ _ _  (iv_w hx2 (by decide)) hT hS (lv_sub hl [0, 1, 2] rfl)
set_option maxHeartbeats 4000000 in
set_option maxRecDepth 100000 in
theorem t_X3_toldFor (l : Launch) {D : va_G} {c0 : Nat → ClassId} {Y : Nat → Option Nat} {ν : Nat → Nat} {H : Heap} (hT : TI D vwCl (tysOf c0) (RTg ν) Y H) {a0 : Nat} (ha0 : Y a0 = some 3) {x1 : Int32} (hx1 : iv x1 (-2147483648) 2147483647) : Met l yX3_toldFor (wz yX3_toldFor cX3_toldFor 2 (some .int)) { frames := 0, cells := 0, slots := 0, locals := 0 } (TP D vwCl (tysOf c0) H [.ref a0, .int x1]) (TQi (fun x H' => H' = H) Y []) 0 0 (pW Y []) := by
  refine Met.ofW (cc := cX3_toldFor) (maxL := 2) (ret := (some .int)) (by decide) rfl ?_
  intro p e s m args below meth c s₁ B hml hv
  obtain ⟨rfl, rfl, hK⟩ := hv
  have hx := B.exec
  have hb := B.bytes
  have hr := B.returns
  have hts : ∀ w ∈ wq, w.before _ s = true := fun w h => atoms_spec (ws := wz yX3_toldFor cX3_toldFor 2 (some .int)) B.pre w (List.mem_cons_of_mem _ h)
  have hown : s.vm.findClass RX3 = some m.cls := findClass_of_methodNamed B.named
  have hlocks := B.notSynchronized
  obtain ⟨R, hR⟩ : ∃ R : Room, R = ({ frames := 0, cells := 0, slots := 0, locals := 0 } : Room) := ⟨_, rfl⟩
  rw [show (headSpec (wz yX3_toldFor cX3_toldFor 2 (some .int)) { frames := 0, cells := 0, slots := 0, locals := 0 }).room = R from hR.symm]
  refine ti_mi hx hb hr hlocks (fun Q ret => ?_)
  have hl := lv_entry [.ref a0, .int x1] (n := 2) (Nat.le_of_ble_eq_true rfl)
  rw [lg_entry_eq]
  generalize (lg_sl [.ref a0, .int x1] ++ List.replicate (2 - (lg_sl [.ref a0, .int x1]).length) Slot.unset).toArray = ls at hl ⊢
  have hl : lv_has ls 2 [(0, .ref a0), (1, .int x1)] := hl
  have hS : va_S (pW Y []) s.heap s.heap [] := va_S.rf
  refine lv_iload_n hx hb dX3_toldFor_0 rfl (lv_at hl 1 rfl) ?_
  refine lv_aload_n hx hb dX3_toldFor_1 rfl (lv_at hl 0 rfl) ?_
  refine ti_geti hx hb hts inlX3 hown hK hT ha0 rfl rfl rfl 2 (by decide) (hts _ kw_366) (fun _ h9 => h9) rfl dX3_toldFor_2 (fun v2 hv2 hm2 => ?_)
  refine lv_icmp_ne (tgt := 13) hx hb dX3_toldFor_5 (by decide) (fun c5 => ?_) (fun c5 => ?_)
  · skip
    have f5 := i_ne c5
    refine lv_iload_n hx hb dX3_toldFor_13 rfl (lv_at hl 1 rfl) ?_
    refine lv_iconst (v := 3) hx hb dX3_toldFor_14 (by decide) ?_
    refine lv_icmp_ne (tgt := 22) hx hb dX3_toldFor_15 (by decide) (fun c15 => ?_) (fun c15 => ?_)
    · skip
      have kl3 : (3 : Int32).toInt = 3 := by decide
      have f15 := i_ne c15
      refine lv_iconst (v := 0) hx hb dX3_toldFor_22 (by decide) ?_
      exact ret _ _ _ _ _ dX3_toldFor_23 (rfl) hS
    · skip
      have kl3 : (3 : Int32).toInt = 3 := by decide
      have f15 := i_eq c15
      have hx1_15l : iv x1 3 3 := iv_eql hx1 (iv_c (x := (3 : Int32)) (k := 3) (by decide)) c15 (by decide)
      refine lv_iconst (v := 3) hx hb dX3_toldFor_18 (by decide) ?_
      refine lv_goto (tgt := 23) hx hb dX3_toldFor_19 (by decide) ?_
      exact ret _ _ _ _ _ dX3_toldFor_23 (rfl) hS
  · skip
    have f5 := i_eq c5
    refine lv_aload_n hx hb dX3_toldFor_8 rfl (lv_at hl 0 rfl) ?_
    refine ti_geti hx hb hts inlX3 hown hK hT ha0 rfl rfl rfl 3 (by decide) (hts _ kw_367) (fun _ h9 => h9) rfl dX3_toldFor_9 (fun v9 hv9 hm9 => ?_)
    exact ret _ _ _ _ _ dX3_toldFor_12 (rfl) hS
set_option maxHeartbeats 4000000 in
set_option maxRecDepth 100000 in
theorem t_X4_load (l : Launch) {D : va_G} {c0 : Nat → ClassId} {Y : Nat → Option Nat} {ν : Nat → Nat} {H : Heap} (hT : TI D vwCl (tysOf c0) (RTg ν) Y H) {a0 : Nat} (ha0 : Y a0 = some 4) {a1 : Nat} (ha1 : Y a1 = some 7) : Met l yX4_load (wz yX4_load cX4_load 3 none) { frames := 0, cells := 0, slots := 0, locals := 0 } (TP D vwCl (tysOf c0) H [.ref a0, .ref a1]) (TQv (fun H' => TI D vwCl (tysOf c0) (RTg ν) Y H') Y [4, 29]) 0 0 (pW Y [4, 29]) := by
  refine Met.ofW (cc := cX4_load) (maxL := 3) (ret := none) (by decide) rfl ?_
  intro p e s m args below meth c s₁ B hml hv
  obtain ⟨rfl, rfl, hK⟩ := hv
  have hx := B.exec
  have hb := B.bytes
  have hr := B.returns
  have hts : ∀ w ∈ wq, w.before _ s = true := fun w h => atoms_spec (ws := wz yX4_load cX4_load 3 none) B.pre w (List.mem_cons_of_mem _ h)
  have hown : s.vm.findClass RX4 = some m.cls := findClass_of_methodNamed B.named
  have hlocks := B.notSynchronized
  obtain ⟨R, hR⟩ : ∃ R : Room, R = ({ frames := 0, cells := 0, slots := 0, locals := 0 } : Room) := ⟨_, rfl⟩
  rw [show (headSpec (wz yX4_load cX4_load 3 none) { frames := 0, cells := 0, slots := 0, locals := 0 }).room = R from hR.symm]
  refine ti_mv hx hb hr hlocks (fun Q ret => ?_)
  have hl := lv_entry [.ref a0, .ref a1] (n := 3) (Nat.le_of_ble_eq_true rfl)
  rw [lg_entry_eq]
  generalize (lg_sl [.ref a0, .ref a1] ++ List.replicate (3 - (lg_sl [.ref a0, .ref a1]).length) Slot.unset).toArray = ls at hl ⊢
  have hl : lv_has ls 3 [(0, .ref a0), (1, .ref a1)] := hl
  refine ti_gen (P := fun H => TI D vwCl (tysOf c0) (RTg ν) Y H) (Y := Y) (ws := [4, 29]) hT (fun H locs hT hS => ?_)
  refine lv_aload_n hx hb dX4_load_0 rfl (lv_at hl 0 rfl) ?_
  refine lv_aload_n hx hb dX4_load_1 rfl (lv_at hl 1 rfl) ?_
  refine ti_geti hx hb hts inlX7 hown hK hT ha1 rfl rfl rfl 1 (by decide) (hts _ kw_580) (fun _ h9 => h9) rfl dX4_load_2 (fun v2 hv2 hm2 => ?_)
  refine ti_put (ty := .int) hx hb hts inlX4 tyX4 tyX4_ok nmX4 hown hK hT hS ha0 rfl rfl rfl rfl 0 (by decide) (hts _ kw_581) (fun _ h9 => h9) rfl rfl (by decide +kernel) rfl rfl ⟨v2, rfl, iv_w hv2 (by decide)⟩ (fun _ _ => trivial) dX4_load_5 (fun H locs hT hS oq5 he5 hk5 => ?_)
  refine lv_aload_n hx hb dX4_load_8 rfl (lv_at hl 0 rfl) ?_
  refine lv_aload_n hx hb dX4_load_9 rfl (lv_at hl 1 rfl) ?_
  refine ti_geti hx hb hts inlX7 hown hK hT ha1 rfl rfl rfl 0 (by decide) (hts _ kw_582) (fun _ h9 => h9) rfl dX4_load_10 (fun v10 hv10 hm10 => ?_)
  refine ti_put (ty := .int) hx hb hts inlX4 tyX4 tyX4_ok nmX4 hown hK hT hS ha0 rfl rfl rfl rfl 1 (by decide) (hts _ kw_583) (fun _ h9 => h9) rfl rfl (by decide +kernel) rfl rfl ⟨v10, rfl, iv_w hv10 (by decide)⟩ (fun _ _ => trivial) dX4_load_13 (fun H locs hT hS oq13 he13 hk13 => ?_)
  refine lv_aload_n hx hb dX4_load_16 rfl (lv_at hl 0 rfl) ?_
  refine lv_aload_n hx hb dX4_load_17 rfl (lv_at hl 1 rfl) ?_
  refine ti_geti hx hb hts inlX7 hown hK hT ha1 rfl rfl rfl 3 (by decide) (hts _ kw_584) (fun _ h9 => h9) rfl dX4_load_18 (fun v18 hv18 hm18 => ?_)
  refine ti_put (ty := .int) hx hb hts inlX4 tyX4 tyX4_ok nmX4 hown hK hT hS ha0 rfl rfl rfl rfl 2 (by decide) (hts _ kw_585) (fun _ h9 => h9) rfl rfl (by decide +kernel) rfl rfl ⟨v18, rfl, iv_w hv18 (by decide)⟩ (fun _ _ => trivial) dX4_load_21 (fun H locs hT hS oq21 he21 hk21 => ?_)
  refine lv_iconst (v := 0) hx hb dX4_load_24 (by decide) ?_
  have J26 : ∀ (n : Nat) (j26_L2 : Int32) (H : Heap) (locs : List Loc) (ls : Array Slot), (8 - j26_L2.toInt).toNat < n → iv j26_L2 0 8 → TI D vwCl (tysOf c0) (RTg ν) Y H → va_S (pW Y [4, 29]) s.heap H locs → lv_has ls 3 [(0, .ref a0), (1, .ref a1), (2, .int j26_L2)] → W p l e R s m ([.ref a0, .ref a1] : List Value).toArray below meth c H locs 0 0 Q (F0 m 26 ls []) := by
    intro n
    induction n with
    | zero => intro j26_L2 H locs ls hms; exact absurd hms (Nat.not_lt_zero _)
    | succ n ih26 =>
      intro j26_L2 H locs ls hms26 hj26_L2 hT hS hl
      refine lv_iload_n hx hb dX4_load_26 rfl (lv_at hl 2 rfl) ?_
      refine lv_aload_n hx hb dX4_load_27 rfl (lv_at hl 0 rfl) ?_
      refine ti_geti hx hb hts inlX4 hown hK hT ha0 rfl rfl rfl 0 (by decide) (hts _ kw_581) (fun _ h9 => h9) rfl dX4_load_28 (fun v28 hv28 hm28 => ?_)
      refine lv_icmp_ge (tgt := 70) hx hb dX4_load_31 (by decide) (fun c31 => ?_) (fun c31 => ?_)
      · skip
        have f31 := i_le c31
        exact ret _ _ _ _ dX4_load_70 (hT) hS
      · skip
        have f31 := i_nle c31
        have hj26_L2_31l : iv j26_L2 0 7 := iv_ltl hj26_L2 hv28 (Int32.not_le.mp c31) (by decide)
        have hv28_31r : iv v28 1 8 := iv_ltr hj26_L2_31l hv28 (Int32.not_le.mp c31) (by decide)
        refine lv_aload_n hx hb dX4_load_34 rfl (lv_at hl 0 rfl) ?_
        refine ti_getr hx hb hts inlX4 hown hK hT ha0 rfl rfl rfl 3 (by decide) (hts _ kw_105) (fun _ h9 => h9) rfl dX4_load_35 (fun v35 hv35 hm35 => ?_)
        refine lv_iload_n hx hb dX4_load_38 rfl (lv_at hl 2 rfl) ?_
        refine lv_aload_n hx hb dX4_load_39 rfl (lv_at hl 1 rfl) ?_
        refine ti_getr hx hb hts inlX7 hown hK hT ha1 rfl rfl rfl 8 (by decide) (hts _ kw_586) (fun _ h9 => h9) rfl dX4_load_40 (fun v40 hv40 hm40 => ?_)
        refine lv_iload_n hx hb dX4_load_43 rfl (lv_at hl 2 rfl) ?_
        refine ti_aald hx hb (aT6 hK) hT hv40 rfl hj26_L2_31l (by decide) (fun _ _ _ => rfl) dX4_load_44 (fun v44 hv44 => ?_)
        refine ti_geti hx hb hts inlX3 hown hK hT hv44 rfl rfl rfl 0 (by decide) (hts _ kw_587) (fun _ h9 => h9) rfl dX4_load_45 (fun v45 hv45 hm45 => ?_)
        refine ti_iast hx hb (aT0 hK) hT hS hv35 rfl rfl hj26_L2_31l (by decide) (fun _ _ _ => ⟨_, _, rfl, by decide, by decide⟩) hv45 (fun _ _ => trivial) dX4_load_48 (fun H locs hT hS oq48 he48 hk48 => ?_)
        refine lv_aload_n hx hb dX4_load_49 rfl (lv_at hl 0 rfl) ?_
        refine ti_getr hx hb hts inlX4 hown hK hT ha0 rfl rfl rfl 4 (by decide) (hts _ kw_106) (fun _ h9 => h9) rfl dX4_load_50 (fun v50 hv50 hm50 => ?_)
        refine lv_iload_n hx hb dX4_load_53 rfl (lv_at hl 2 rfl) ?_
        refine lv_aload_n hx hb dX4_load_54 rfl (lv_at hl 1 rfl) ?_
        refine ti_getE (ci := 7) (v := .ref v40) hx hb hts inlX7 hown hK (hm40.kept (oq48 _ (ne_r ha1 hv35 rfl))) rfl (by decide) (hts _ kw_586) (fun _ h9 => h9) dX4_load_55 ?_
        refine lv_iload_n hx hb dX4_load_58 rfl (lv_at hl 2 rfl) ?_
        refine ti_aald hx hb (aT6 hK) hT hv40 rfl hj26_L2_31l (by decide) (fun _ _ _ => rfl) dX4_load_59 (fun v59 hv59 => ?_)
        refine ti_geti hx hb hts inlX3 hown hK hT hv59 rfl rfl rfl 1 (by decide) (hts _ kw_588) (fun _ h9 => h9) rfl dX4_load_60 (fun v60 hv60 hm60 => ?_)
        refine ti_iast hx hb (aT0 hK) hT hS hv50 rfl rfl hj26_L2_31l (by decide) (fun _ _ _ => ⟨_, _, rfl, by decide, by decide⟩) hv60 (fun _ _ => trivial) dX4_load_63 (fun H locs hT hS oq63 he63 hk63 => ?_)
        obtain ⟨v64, e64⟩ : ∃ y : Int32, y = j26_L2 + 1 := ⟨_, rfl⟩
        have hv64 : iv v64 1 8 := by rw [e64]; exact iv_w (iv_add hj26_L2_31l (iv_c (x := (1 : Int32)) (k := 1) (by decide)) (by decide)) (by decide)
        have s64 : v64.toInt = j26_L2.toInt + 1 := by rw [e64, iv_addE hj26_L2_31l (iv_c (x := (1 : Int32)) (k := 1) (by decide)) (by decide)]; rfl
        refine lv_iinc (v := v64) (lv' := [(2, .int v64), (0, .ref a0), (1, .ref a1)]) hx hb dX4_load_64 hl (k := 2) rfl (by rw [e64]; rfl) (by decide) rfl (fun ls hl => ?_)
        refine lv_goto (tgt := 26) hx hb dX4_load_67 (by decide) ?_
        exact ih26 v64 _ _ _ (ms_up hms26 (by have := s64; omega) (iv_w (c := 1) (d := 8) hv64 (by decide)).2) (iv_w hv64 (by decide)) hT hS (lv_sub hl [1, 2, 0] rfl)
  refine lv_istore_n (lv' := [(2, .int (0 : Int32)), (0, .ref a0), (1, .ref a1)]) hx hb dX4_load_25 rfl hl (by decide) rfl (fun ls hl => ?_)
  exact J26 _ (0 : Int32) _ _ _ (Nat.lt_succ_self _) (iv_w (iv_c (x := (0 : Int32)) (k := 0) (by decide)) (by decide)) hT hS (lv_sub hl [1, 2, 0] rfl)
set_option maxHeartbeats 4000000 in
set_option maxRecDepth 100000 in
theorem t_X4_spend (l : Launch) {D : va_G} {c0 : Nat → ClassId} {Y : Nat → Option Nat} {ν : Nat → Nat} {H : Heap} (hT : TI D vwCl (tysOf c0) (RTg ν) Y H) {a0 : Nat} (ha0 : Y a0 = some 4) {x1 : Int32} (hx1 : iv x1 0 7) {x2 : Int32} (hx2 : iv x2 (-2147483648) 2147483647) : Met l yX4_spend (wz yX4_spend cX4_spend 3 none) { frames := 1, cells := 0, slots := 0, locals := 60 } (TP D vwCl (tysOf c0) H [.ref a0, .int x1, .int x2]) (TQv (fun H' => TI D vwCl (tysOf c0) (RTg ν) Y H') Y [29]) 0 0 (pW Y [29]) := by
  refine Met.ofW (cc := cX4_spend) (maxL := 3) (ret := none) (by decide) rfl ?_
  intro p e s m args below meth c s₁ B hml hv
  obtain ⟨rfl, rfl, hK⟩ := hv
  have hx := B.exec
  have hb := B.bytes
  have hr := B.returns
  have hts : ∀ w ∈ wq, w.before _ s = true := fun w h => atoms_spec (ws := wz yX4_spend cX4_spend 3 none) B.pre w (List.mem_cons_of_mem _ h)
  have hown : s.vm.findClass RX4 = some m.cls := findClass_of_methodNamed B.named
  have hlocks := B.notSynchronized
  obtain ⟨R, hR⟩ : ∃ R : Room, R = ({ frames := 1, cells := 0, slots := 0, locals := 60 } : Room) := ⟨_, rfl⟩
  rw [show (headSpec (wz yX4_spend cX4_spend 3 none) { frames := 1, cells := 0, slots := 0, locals := 60 }).room = R from hR.symm]
  refine ti_mv hx hb hr hlocks (fun Q ret => ?_)
  have hl := lv_entry [.ref a0, .int x1, .int x2] (n := 3) (Nat.le_of_ble_eq_true rfl)
  rw [lg_entry_eq]
  generalize (lg_sl [.ref a0, .int x1, .int x2] ++ List.replicate (3 - (lg_sl [.ref a0, .int x1, .int x2]).length) Slot.unset).toArray = ls at hl ⊢
  have hl : lv_has ls 3 [(0, .ref a0), (1, .int x1), (2, .int x2)] := hl
  refine ti_gen (P := fun H => TI D vwCl (tysOf c0) (RTg ν) Y H) (Y := Y) (ws := [29]) hT (fun H locs hT hS => ?_)
  refine lv_aload_n hx hb dX4_spend_0 rfl (lv_at hl 0 rfl) ?_
  refine ti_getr hx hb hts inlX4 hown hK hT ha0 rfl rfl rfl 3 (by decide) (hts _ kw_105) (fun _ h9 => h9) rfl dX4_spend_1 (fun v1 hv1 hm1 => ?_)
  refine lv_iload_n hx hb dX4_spend_4 rfl (lv_at hl 1 rfl) ?_
  refine lv_iconst (v := 0) hx hb dX4_spend_5 (by decide) ?_
  refine lv_aload_n hx hb dX4_spend_6 rfl (lv_at hl 0 rfl) ?_
  refine ti_getE (ci := 4) (v := .ref v1) hx hb hts inlX4 hown hK hm1 rfl (by decide) (hts _ kw_105) (fun _ h9 => h9) dX4_spend_7 ?_
  refine lv_iload_n hx hb dX4_spend_10 rfl (lv_at hl 1 rfl) ?_
  refine ti_iald (lo := (-2147483648)) (hi := 2147483647) hx hb (aT0 hK) hT hv1 rfl hx1 (by decide) (fun _ _ _ => ⟨_, _, rfl, by decide, by decide⟩) dX4_spend_11 (fun v11 hv11 hm11 => ?_)
  refine lv_iload_n hx hb dX4_spend_12 rfl (lv_at hl 2 rfl) ?_
  refine lv_isub hx hb dX4_spend_13 ?_
  refine lv_topi (fun v13 e13 => ?_)
  have hv13 : iv v13 (-2147483648) 2147483647 := iv_top _
  refine va_mmax hx hb (by rw [hml]; exact hl.1.symm) hown (hts _ kw_1049) (hts _ kw_618) (hts _ kw_212) (hts _ kw_619) (by rw [hR]; decide) (by rw [hR]; exact Nat.le_of_ble_eq_true rfl) (Nat.zero_le _) (Nat.zero_le _) dX4_spend_14 ?_
  refine lv_topi (fun v14 e14 => ?_)
  have hv14 : iv v14 0 2147483647 := by rw [e14]; exact iv_max (iv_c (x := (0 : Int32)) (k := 0) (by decide)) hv13 (by decide)
  refine ti_iast hx hb (aT0 hK) hT hS hv1 rfl rfl hx1 (by decide) (fun _ _ _ => ⟨_, _, rfl, by decide, by decide⟩) hv14 (fun _ _ => trivial) dX4_spend_17 (fun H locs hT hS oq17 he17 hk17 => ?_)
  refine lv_aload_n hx hb dX4_spend_18 rfl (lv_at hl 0 rfl) ?_
  refine ti_getr hx hb hts inlX4 hown hK hT ha0 rfl rfl rfl 4 (by decide) (hts _ kw_106) (fun _ h9 => h9) rfl dX4_spend_19 (fun v19 hv19 hm19 => ?_)
  refine lv_iload_n hx hb dX4_spend_22 rfl (lv_at hl 1 rfl) ?_
  refine lv_aload_n hx hb dX4_spend_23 rfl (lv_at hl 0 rfl) ?_
  refine ti_getE (ci := 4) (v := .ref v19) hx hb hts inlX4 hown hK hm19 rfl (by decide) (hts _ kw_106) (fun _ h9 => h9) dX4_spend_24 ?_
  refine lv_iload_n hx hb dX4_spend_27 rfl (lv_at hl 1 rfl) ?_
  refine ti_iald (lo := (-2147483648)) (hi := 2147483647) hx hb (aT0 hK) hT hv19 rfl hx1 (by decide) (fun _ _ _ => ⟨_, _, rfl, by decide, by decide⟩) dX4_spend_28 (fun v28 hv28 hm28 => ?_)
  refine lv_aload_n hx hb dX4_spend_29 rfl (lv_at hl 0 rfl) ?_
  refine ti_getE (ci := 4) (v := .ref v1) hx hb hts inlX4 hown hK (hm1.kept (oq17 _ (ne_r ha0 hv1 rfl))) rfl (by decide) (hts _ kw_105) (fun _ h9 => h9) dX4_spend_30 ?_
  refine lv_iload_n hx hb dX4_spend_33 rfl (lv_at hl 1 rfl) ?_
  refine ti_ialdE (v := .int v14) hx hb (aT0 hK) hT hv1 rfl hx1 (by decide) (he17) dX4_spend_34 ?_
  refine va_mmin hx hb (by rw [hml]; exact hl.1.symm) hown (hts _ kw_1044) (hts _ kw_211) (hts _ kw_212) (hts _ kw_213) (by rw [hR]; decide) (by rw [hR]; exact Nat.le_of_ble_eq_true rfl) (Nat.zero_le _) (Nat.zero_le _) dX4_spend_35 ?_
  refine lv_topi (fun v35 e35 => ?_)
  have hv35 : iv v35 (-2147483648) 2147483647 := by rw [e35]; exact iv_min hv28 hv14 (by decide)
  refine ti_iast hx hb (aT0 hK) hT hS hv19 rfl rfl hx1 (by decide) (fun _ _ _ => ⟨_, _, rfl, by decide, by decide⟩) hv35 (fun _ _ => trivial) dX4_spend_38 (fun H locs hT hS oq38 he38 hk38 => ?_)
  exact ret _ _ _ _ dX4_spend_39 (hT) hS
set_option maxHeartbeats 4000000 in
set_option maxRecDepth 100000 in
theorem t_X4_hand (l : Launch) {D : va_G} {c0 : Nat → ClassId} {Y : Nat → Option Nat} {ν : Nat → Nat} {H : Heap} (hT : TI D vwCl (tysOf c0) (RTg ν) Y H) {a0 : Nat} (ha0 : Y a0 = some 4) {x1 : Int32} (hx1 : iv x1 0 7) {x2 : Int32} (hx2 : iv x2 0 7) {x3 : Int32} (hx3 : iv x3 0 100000) : Met l yX4_hand (wz yX4_hand cX4_hand 4 none) { frames := 2, cells := 0, slots := 0, locals := 82 } (TP D vwCl (tysOf c0) H [.ref a0, .int x1, .int x2, .int x3]) (TQv (fun H' => TI D vwCl (tysOf c0) (RTg ν) Y H') Y [29]) 0 0 (pW Y [29]) := by
  refine Met.ofW (cc := cX4_hand) (maxL := 4) (ret := none) (by decide) rfl ?_
  intro p e s m args below meth c s₁ B hml hv
  obtain ⟨rfl, rfl, hK⟩ := hv
  have hx := B.exec
  have hb := B.bytes
  have hr := B.returns
  have hts : ∀ w ∈ wq, w.before _ s = true := fun w h => atoms_spec (ws := wz yX4_hand cX4_hand 4 none) B.pre w (List.mem_cons_of_mem _ h)
  have hown : s.vm.findClass RX4 = some m.cls := findClass_of_methodNamed B.named
  have hlocks := B.notSynchronized
  obtain ⟨R, hR⟩ : ∃ R : Room, R = ({ frames := 2, cells := 0, slots := 0, locals := 82 } : Room) := ⟨_, rfl⟩
  rw [show (headSpec (wz yX4_hand cX4_hand 4 none) { frames := 2, cells := 0, slots := 0, locals := 82 }).room = R from hR.symm]
  refine ti_mv hx hb hr hlocks (fun Q ret => ?_)
  have hl := lv_entry [.ref a0, .int x1, .int x2, .int x3] (n := 4) (Nat.le_of_ble_eq_true rfl)
  rw [lg_entry_eq]
  generalize (lg_sl [.ref a0, .int x1, .int x2, .int x3] ++ List.replicate (4 - (lg_sl [.ref a0, .int x1, .int x2, .int x3]).length) Slot.unset).toArray = ls at hl ⊢
  have hl : lv_has ls 4 [(0, .ref a0), (1, .int x1), (2, .int x2), (3, .int x3)] := hl
  refine ti_gen (P := fun H => TI D vwCl (tysOf c0) (RTg ν) Y H) (Y := Y) (ws := [29]) hT (fun H locs hT hS => ?_)
  refine lv_aload_n hx hb dX4_hand_0 rfl (lv_at hl 0 rfl) ?_
  refine lv_iload_n hx hb dX4_hand_1 rfl (lv_at hl 1 rfl) ?_
  refine lv_iload_n hx hb dX4_hand_2 rfl (lv_at hl 3 rfl) ?_
  refine ti_callv (va_runV (As := [.int x1, .int x3]) (rest := []) ⟨hx, hb, hml, hown, hts⟩ (t_X4_spend l hT ha0 (iv_w hx1 (by decide)) (iv_w hx3 (by decide))) (cwV 2 hts (good_V kw_1045 kw_1046 kw_1047 kw_29 kw_1048) rfl rfl rfl (by decide +kernel) ⟨by rw [hR]; decide, by rw [hR]; decide⟩) (ti_preV hK hT ha0 rfl rfl) rfl rfl hl.1 rfl (lv_room (Nat.le_of_ble_eq_true rfl)) dX4_hand_3 ⟨Nat.zero_le _, Nat.zero_le _⟩) hS (pW_sub rfl) (fun H locs hB hS _ hk3 => ?_)
  have hT := hB
  refine lv_aload_n hx hb dX4_hand_6 rfl (lv_at hl 0 rfl) ?_
  refine ti_getr hx hb hts inlX4 hown hK hT ha0 rfl rfl rfl 3 (by decide) (hts _ kw_105) (fun _ h9 => h9) rfl dX4_hand_7 (fun v7 hv7 hm7 => ?_)
  refine lv_iload_n hx hb dX4_hand_10 rfl (lv_at hl 2 rfl) ?_
  refine lv_aload_n hx hb dX4_hand_11 rfl (lv_at hl 0 rfl) ?_
  refine ti_geti hx hb hts inlX4 hown hK hT ha0 rfl rfl rfl 1 (by decide) (hts _ kw_583) (fun _ h9 => h9) rfl dX4_hand_12 (fun v12 hv12 hm12 => ?_)
  refine lv_aload_n hx hb dX4_hand_15 rfl (lv_at hl 0 rfl) ?_
  refine ti_getE (ci := 4) (v := .ref v7) hx hb hts inlX4 hown hK hm7 rfl (by decide) (hts _ kw_105) (fun _ h9 => h9) dX4_hand_16 ?_
  refine lv_iload_n hx hb dX4_hand_19 rfl (lv_at hl 2 rfl) ?_
  refine ti_iald (lo := (-2147483648)) (hi := 2147483647) hx hb (aT0 hK) hT hv7 rfl hx2 (by decide) (fun _ _ _ => ⟨_, _, rfl, by decide, by decide⟩) dX4_hand_20 (fun v20 hv20 hm20 => ?_)
  refine lv_iload_n hx hb dX4_hand_21 rfl (lv_at hl 3 rfl) ?_
  refine lv_iadd hx hb dX4_hand_22 ?_
  refine lv_topi (fun v22 e22 => ?_)
  have hv22 : iv v22 (-2147483648) 2147483647 := iv_top _
  refine va_mmin hx hb (by rw [hml]; exact hl.1.symm) hown (hts _ kw_1044) (hts _ kw_211) (hts _ kw_212) (hts _ kw_213) (by rw [hR]; decide) (by rw [hR]; exact Nat.le_of_ble_eq_true rfl) (Nat.zero_le _) (Nat.zero_le _) dX4_hand_23 ?_
  refine lv_topi (fun v23 e23 => ?_)
  have hv23 : iv v23 (-2147483648) 2147483647 := by rw [e23]; exact iv_min hv12 hv22 (by decide)
  refine ti_iast hx hb (aT0 hK) hT hS hv7 rfl rfl hx2 (by decide) (fun _ _ _ => ⟨_, _, rfl, by decide, by decide⟩) hv23 (fun _ _ => trivial) dX4_hand_26 (fun H locs hT hS oq26 he26 hk26 => ?_)
  exact ret _ _ _ _ dX4_hand_27 (hT) hS
set_option maxHeartbeats 4000000 in
set_option maxRecDepth 100000 in
theorem t_X4_lossOf (l : Launch) {D : va_G} {c0 : Nat → ClassId} {Y : Nat → Option Nat} {ν : Nat → Nat} {H : Heap} (hT : TI D vwCl (tysOf c0) (RTg ν) Y H) {a0 : Nat} (ha0 : Y a0 = some 4) {x1 : Int32} (hx1 : iv x1 0 7) : Met l yX4_lossOf (wz yX4_lossOf cX4_lossOf 2 (some .int)) { frames := 0, cells := 0, slots := 0, locals := 0 } (TP D vwCl (tysOf c0) H [.ref a0, .int x1]) (TQi (fun x H' => H' = H) Y []) 0 0 (pW Y []) := by
  refine Met.ofW (cc := cX4_lossOf) (maxL := 2) (ret := (some .int)) (by decide) rfl ?_
  intro p e s m args below meth c s₁ B hml hv
  obtain ⟨rfl, rfl, hK⟩ := hv
  have hx := B.exec
  have hb := B.bytes
  have hr := B.returns
  have hts : ∀ w ∈ wq, w.before _ s = true := fun w h => atoms_spec (ws := wz yX4_lossOf cX4_lossOf 2 (some .int)) B.pre w (List.mem_cons_of_mem _ h)
  have hown : s.vm.findClass RX4 = some m.cls := findClass_of_methodNamed B.named
  have hlocks := B.notSynchronized
  obtain ⟨R, hR⟩ : ∃ R : Room, R = ({ frames := 0, cells := 0, slots := 0, locals := 0 } : Room) := ⟨_, rfl⟩
  rw [show (headSpec (wz yX4_lossOf cX4_lossOf 2 (some .int)) { frames := 0, cells := 0, slots := 0, locals := 0 }).room = R from hR.symm]
  refine ti_mi hx hb hr hlocks (fun Q ret => ?_)
  have hl := lv_entry [.ref a0, .int x1] (n := 2) (Nat.le_of_ble_eq_true rfl)
  rw [lg_entry_eq]
  generalize (lg_sl [.ref a0, .int x1] ++ List.replicate (2 - (lg_sl [.ref a0, .int x1]).length) Slot.unset).toArray = ls at hl ⊢
  have hl : lv_has ls 2 [(0, .ref a0), (1, .int x1)] := hl
  have hS : va_S (pW Y []) s.heap s.heap [] := va_S.rf
  refine lv_aload_n hx hb dX4_lossOf_0 rfl (lv_at hl 0 rfl) ?_
  refine ti_geti hx hb hts inlX4 hown hK hT ha0 rfl rfl rfl 7 (by decide) (hts _ kw_595) (fun _ h9 => h9) rfl dX4_lossOf_1 (fun v1 hv1 hm1 => ?_)
  refine lv_iload_n hx hb dX4_lossOf_4 rfl (lv_at hl 1 rfl) ?_
  refine lv_ishr hx hb dX4_lossOf_5 ?_
  refine lv_topi (fun v5 e5 => ?_)
  have hv5 : iv v5 (-2147483648) 2147483647 := iv_top _
  refine lv_iconst (v := 1) hx hb dX4_lossOf_6 (by decide) ?_
  refine lv_iand hx hb dX4_lossOf_7 ?_
  refine lv_topi (fun v7 e7 => ?_)
  have hv7 : iv v7 0 1 := by rw [e7]; exact iv_and (iv_w (iv_c (x := (1 : Int32)) (k := 1) (by decide)) (by decide))
  refine lv_if_ne (tgt := 15) hx hb dX4_lossOf_8 (by decide) (fun c8 => ?_) (fun c8 => ?_)
  · skip
    have kl0 : (0 : Int32).toInt = 0 := by decide
    have f8 := i_ne c8
    have hv7_8l : iv v7 1 1 := iv_nel hv7 (iv_c (x := (0 : Int32)) (k := 0) (by decide)) c8 (by decide)
    refine lv_aload_n hx hb dX4_lossOf_15 rfl (lv_at hl 0 rfl) ?_
    refine ti_geti hx hb hts inlX4 hown hK hT ha0 rfl rfl rfl 9 (by decide) (hts _ kw_599) (fun _ h9 => h9) rfl dX4_lossOf_16 (fun v16 hv16 hm16 => ?_)
    exact ret _ _ _ _ _ dX4_lossOf_19 (rfl) hS
  · skip
    have kl0 : (0 : Int32).toInt = 0 := by decide
    have f8 := i_eq c8
    have hv7_8l : iv v7 0 0 := iv_eql hv7 (iv_c (x := (0 : Int32)) (k := 0) (by decide)) c8 (by decide)
    refine lv_iconst (v := 0) hx hb dX4_lossOf_11 (by decide) ?_
    refine lv_goto (tgt := 19) hx hb dX4_lossOf_12 (by decide) ?_
    exact ret _ _ _ _ _ dX4_lossOf_19 (rfl) hS
