/-! thoughts leave the world as it was (for stillWorth, hidingWorth, hides, edge) -/
theorem cpy_eq {A B : Nat} {H H1 : Heap} {i i' k k' : Int32} {x : Int32} (hinv : ∀ j : Nat, j < k.toNatClampNeg → ∃ v : Value, am A j v H ∧ am B j v H) (he : am A i.toNatClampNeg (.int x) H1) (hk : ∀ (j : Nat) (v' : Value), j ≠ i.toNatClampNeg → am A j v' H → am A j v' H1) (hB : H1[B]? = H[B]?) (hm : am B i'.toNatClampNeg (.int x) H) (hi : i.toNatClampNeg = k.toNatClampNeg) (hi' : i'.toNatClampNeg = k.toNatClampNeg) (hk' : k'.toNatClampNeg = k.toNatClampNeg + 1) : ∀ j : Nat, j < k'.toNatClampNeg → ∃ v : Value, am A j v H1 ∧ am B j v H1 := by
  intro j hj
  by_cases e : j = k.toNatClampNeg
  · subst e
    rw [hi] at he
    rw [hi'] at hm
    exact ⟨_, he, hm.kept hB⟩
  · obtain ⟨v, h1, h2⟩ := hinv j (by omega)
    exact ⟨v, hk _ _ (by omega) h1, h2.kept hB⟩
theorem wv_all {D : va_G} {c0 : Nat → ClassId} {ν : Nat → Nat} {Y : Nat → Option Nat} {H : Heap} {a j : Nat} {x : Int32} (hU : uq Y) (hT : TI D vwCl (tysOf c0) (RTg ν) Y H) (ha : Y a = some 10) (h : wv D a j x H) : ∀ w, Y w = some 30 → am w j (.int x) H := by
  intro w hw
  obtain ⟨aw, g1, g2⟩ := h
  obtain ⟨fs, h1, h2, h3, -⟩ := ti_obj hT ha rfl
  obtain ⟨v, h4, q, rfl, hq⟩ := h3 1 _ rfl
  have e := fi_of h1 g1 (q := (RX10, TX10, 38)) rfl (by decide) h2
  cases h4.symm.trans e
  have e2 := hU 30 w aw (by decide) hw hq
  subst e2
  exact g2
theorem model_kept {D : va_G} {c0 : Nat → ClassId} {ν : Nat → Nat} {Y : Nat → Option Nat} {H : Heap} {a : Nat} (hT : TI D vwCl (tysOf c0) (RTg ν) Y H) (ha : Y a = some 10) : ∃ b, Y b = some 41 := by
  obtain ⟨fs, -, -, h3, -⟩ := ti_obj hT ha rfl
  obtain ⟨v, -, q, -, hq⟩ := h3 17 _ rfl
  exact ⟨q, hq⟩
theorem model_world {D : va_G} {c0 : Nat → ClassId} {ν : Nat → Nat} {Y : Nat → Option Nat} {H : Heap} {a : Nat} (hT : TI D vwCl (tysOf c0) (RTg ν) Y H) (ha : Y a = some 10) : ∃ b, Y b = some 30 := by
  obtain ⟨fs, -, -, h3, -⟩ := ti_obj hT ha rfl
  obtain ⟨v, -, q, -, hq⟩ := h3 1 _ rfl
  exact ⟨q, hq⟩
set_option maxHeartbeats 4000000 in
set_option maxRecDepth 100000 in
theorem t_X10_thinks_e (l : Launch) {D : va_G} {c0 : Nat → ClassId} {Y : Nat → Option Nat} {ν : Nat → Nat} {H : Heap} (hT : TI D vwCl (tysOf c0) (RTg ν) Y H) {a0 : Nat} (ha0 : Y a0 = some 10) (hν3 : ν 3 = 0) (hν5 : ν 5 = 0) (hU : uq Y) : Met l yX10_thinks (wz yX10_thinks cX10_thinks 2 none) { frames := 0, cells := 0, slots := 0, locals := 0 } (TP D vwCl (tysOf c0) H [.ref a0]) (TQv (fun H' => TI D vwCl (tysOf c0) (RTg (νt ν)) Y H' ∧ ((∀ q, Y q = some 41 → ∀ w, Y w = some 30 → ∀ j : Nat, j < 178 → ∃ v : Value, am q j v H' ∧ am w j v H'))) Y [10, 41, 42]) 0 0 (pW Y [10, 41, 42]) := by
  refine Met.ofW (cc := cX10_thinks) (maxL := 2) (ret := none) (by decide) rfl ?_
  intro p e s m args below meth c s₁ B hml hv
  obtain ⟨rfl, rfl, hK⟩ := hv
  have hx := B.exec
  have hb := B.bytes
  have hr := B.returns
  have hts : ∀ w ∈ wq, w.before _ s = true := fun w h => atoms_spec (ws := wz yX10_thinks cX10_thinks 2 none) B.pre w (List.mem_cons_of_mem _ h)
  have hown : s.vm.findClass RX10 = some m.cls := findClass_of_methodNamed B.named
  have hlocks := B.notSynchronized
  obtain ⟨R, hR⟩ : ∃ R : Room, R = ({ frames := 0, cells := 0, slots := 0, locals := 0 } : Room) := ⟨_, rfl⟩
  rw [show (headSpec (wz yX10_thinks cX10_thinks 2 none) { frames := 0, cells := 0, slots := 0, locals := 0 }).room = R from hR.symm]
  refine ti_mv hx hb hr hlocks (fun Q ret => ?_)
  have hl := lv_entry [.ref a0] (n := 2) (Nat.le_of_ble_eq_true rfl)
  rw [lg_entry_eq]
  generalize (lg_sl [.ref a0] ++ List.replicate (2 - (lg_sl [.ref a0]).length) Slot.unset).toArray = ls at hl ⊢
  have hl : lv_has ls 2 [(0, .ref a0)] := hl
  refine ti_gen (P := fun H => TI D vwCl (tysOf c0) (RTg ν) Y H) (Y := Y) (ws := [10, 41, 42]) hT (fun H locs hT hS => ?_)
  refine lv_iconst (v := 0) hx hb dX10_thinks_0 (by decide) ?_
  have J2 : ∀ (n : Nat) (j2_L1 : Int32) (H : Heap) (locs : List Loc) (ls : Array Slot), (178 - j2_L1.toInt).toNat < n → iv j2_L1 0 178 → (∀ q, Y q = some 41 → ∀ j : Nat, j < j2_L1.toNatClampNeg → ∃ v : Value, am q (0 + j) v H ∧ gm Y (wfg j) v) → ((∀ q, Y q = some 41 → ∀ w, Y w = some 30 → ∀ j : Nat, j < j2_L1.toNatClampNeg → ∃ v : Value, am q j v H ∧ am w j v H)) → TI D vwCl (tysOf c0) (RTg ν) Y H → va_S (pW Y [10, 41, 42]) s.heap H locs → lv_has ls 2 [(0, .ref a0), (1, .int j2_L1)] → W p l e R s m ([.ref a0] : List Value).toArray below meth c H locs 0 0 Q (F0 m 2 ls []) := by
    intro n
    induction n with
    | zero => intro j2_L1 H locs ls hms; exact absurd hms (Nat.not_lt_zero _)
    | succ n ih2 =>
      intro j2_L1 H locs ls hms2 hj2_L1 hX2_0 hX2_1 hT hS hl
      refine lv_iload_n hx hb dX10_thinks_2 rfl (lv_at hl 1 rfl) ?_
      refine lv_sipush (v := 178) hx hb dX10_thinks_3 (by decide) ?_
      refine lv_icmp_ge (tgt := 36) hx hb dX10_thinks_6 (by decide) (fun c6 => ?_) (fun c6 => ?_)
      · skip
        have kl178 : (178 : Int32).toInt = 178 := by decide
        have f6 := i_le c6
        have hj2_L1_6r : iv j2_L1 178 178 := iv_ler (iv_c (x := (178 : Int32)) (k := 178) (by decide)) hj2_L1 c6 (by decide)
        refine lv_aload_n hx hb dX10_thinks_36 rfl (lv_at hl 0 rfl) ?_
        refine ti_getr hx hb hts inlX10 hown hK hT ha0 rfl rfl rfl 18 (by decide) (hts _ kw_139) (fun _ h9 => h9) rfl dX10_thinks_37 (fun v37 hv37 hm37 => ?_)
        refine lv_aload_n hx hb dX10_thinks_40 rfl (lv_at hl 0 rfl) ?_
        refine ti_geti hx hb hts inlX10 hown hK hT ha0 rfl rfl rfl 19 (by decide) (hts _ kw_823) (fun _ h9 => h9) rfl dX10_thinks_41 (fun v41 hz41 hm41 => ?_)
        have hv41 : iv v41 0 0 := by have z := hz41; rw [hν5] at z; exact z
        refine lv_aload_n hx hb dX10_thinks_44 rfl (lv_at hl 0 rfl) ?_
        refine ti_getl hx hb hts inlX10 hown hK hT ha0 rfl rfl rfl 16 (by decide) (hts _ kw_382) (fun _ h9 => h9) rfl dX10_thinks_45 (fun v45 hm45 => ?_)
        refine ti_last hx hb (aT3 hK) hT hS hv37 rfl rfl hv41 (by decide) (fun _ _ _ => rfl)  (fun _ _ => trivial) dX10_thinks_48 (fun H locs hT hS oq48 he48 hk48 => ?_)
        refine lv_aload_n hx hb dX10_thinks_49 rfl (lv_at hl 0 rfl) ?_
        refine lv_dup hx hb dX10_thinks_50 rfl ?_
        refine ti_getE (ci := 10) (v := .int v41) hx hb hts inlX10 hown hK (hm41.kept (oq48 _ (ne_r ha0 hv37 rfl))) rfl (by decide) (hts _ kw_823) (fun _ h9 => h9) dX10_thinks_51 ?_
        refine lv_iconst (v := 1) hx hb dX10_thinks_54 (by decide) ?_
        refine lv_iadd hx hb dX10_thinks_55 ?_
        refine lv_topi (fun v55 e55 => ?_)
        have hv55 : iv v55 1 1 := by rw [e55]; exact iv_w (iv_add hv41 (iv_c (x := (1 : Int32)) (k := 1) (by decide)) (by decide)) (by decide)
        have s55 : v55.toInt = v41.toInt + 1 := by rw [e55, iv_addE hv41 (iv_c (x := (1 : Int32)) (k := 1) (by decide)) (by decide)]; rfl
        have kl1 : (1 : Int32).toInt = 1 := by decide
        have hinv : ∀ q, Y q = some 41 → ∀ j : Nat, j < 178 → ∃ v : Value, am q (0 + j) v H ∧ gm Y (wfg j) v := fun q hq j hj => by
          obtain ⟨v, g1, g2⟩ := hX2_0 q hq j (by have b0a := (hj2_L1_6r).1; have b0b := (hj2_L1_6r).2; have b1a := (hv41).1; have b1b := (hv41).2; have b2a := ((jv_top v45)).1; have b2b := ((jv_top v45)).2; have b3a := (hv55).1; have b3b := (hv55).2; show j < j2_L1.toInt.toNat; omega)
          exact ⟨v, g1.kept (oq48 _ (ne_r hq hv37 rfl)), g2⟩
        obtain ⟨fs, hat, hln, hfs, -⟩ := ti_obj hT ha0 L10_eq
        have hln : fs.length = 38 := hln
        refine xput (ci := 10) (v := .int v55) (ty := .int) (C := RX10) (T := TX10) (N := 38) (A := pW Y [10, 41, 42]) hx hb hts inlX10 tyX10 tyX10_ok nmX10 hown hK hat hS ⟨10, rfl, ha0⟩ rfl 19 (by decide) (hts _ kw_823) (fun _ h9 => h9) rfl (by omega) (by decide +kernel) rfl rfl dX10_thinks_56 (fun H locs hat2 hS ob => ?_)
        have hT := think_put hU hν3 hT ha0 hfs hln (iv_w hv55 (by decide)) hat2 ob hinv
        have heq : (∀ q, Y q = some 41 → ∀ w, Y w = some 30 → ∀ j : Nat, j < 178 → ∃ v : Value, am q j v H ∧ am w j v H) := fun q hq w hw j hj => by
          obtain ⟨v, g1, g2⟩ := hX2_1 q hq w hw j (by have b0a := (hj2_L1_6r).1; have b0b := (hj2_L1_6r).2; have b1a := (hv41).1; have b1b := (hv41).2; have b2a := ((jv_top v45)).1; have b2b := ((jv_top v45)).2; have b3a := (hv55).1; have b3b := (hv55).2; show j < j2_L1.toInt.toNat; omega)
          exact ⟨v, (g1.kept (oq48 _ (ne_r hq hv37 rfl))).kept (ob _ (ne_r hq ha0 rfl)), (g2.kept (oq48 _ (ne_r hw hv37 rfl))).kept (ob _ (ne_r hw ha0 rfl))⟩
        exact ret _ _ _ _ dX10_thinks_59 (⟨hT, heq⟩) hS
      · skip
        have kl178 : (178 : Int32).toInt = 178 := by decide
        have f6 := i_nle c6
        have hj2_L1_6l : iv j2_L1 0 177 := iv_ltl hj2_L1 (iv_c (x := (178 : Int32)) (k := 178) (by decide)) (Int32.not_le.mp c6) (by decide)
        refine lv_aload_n hx hb dX10_thinks_9 rfl (lv_at hl 0 rfl) ?_
        refine ti_getr hx hb hts inlX10 hown hK hT ha0 rfl rfl rfl 17 (by decide) (hts _ kw_138) (fun _ h9 => h9) rfl dX10_thinks_10 (fun v10 hv10 hm10 => ?_)
        refine lv_sipush (v := 178) hx hb dX10_thinks_13 (by decide) ?_
        refine lv_aload_n hx hb dX10_thinks_16 rfl (lv_at hl 0 rfl) ?_
        refine ti_geti hx hb hts inlX10 hown hK hT ha0 rfl rfl rfl 19 (by decide) (hts _ kw_823) (fun _ h9 => h9) rfl dX10_thinks_17 (fun v17 hz17 hm17 => ?_)
        have hv17 : iv v17 0 0 := by have z := hz17; rw [hν5] at z; exact z
        refine lv_imul hx hb dX10_thinks_20 ?_
        refine lv_topi (fun v20 e20 => ?_)
        have hv20 : iv v20 0 0 := by rw [e20]; exact iv_mul (iv_c (x := (178 : Int32)) (k := 178) (by decide)) hv17 (by decide)
        have s20 : v20.toInt = (178 : Int32).toInt * v17.toInt := by rw [e20]; exact iv_mulE (iv_c (x := (178 : Int32)) (k := 178) (by decide)) hv17 (by decide)
        have s20 : v20.toInt = 178 * v17.toInt := by rw [s20]; simp only [show (178 : Int32).toInt = 178 from by decide]; try omega
        refine lv_iload_n hx hb dX10_thinks_21 rfl (lv_at hl 1 rfl) ?_
        refine lv_iadd hx hb dX10_thinks_22 ?_
        refine lv_topi (fun v22 e22 => ?_)
        have hv22 : iv v22 0 177 := by rw [e22]; exact iv_w (iv_add hv20 hj2_L1_6l (by decide)) (by decide)
        have s22 : v22.toInt = v20.toInt + j2_L1.toInt := by rw [e22]; exact iv_addE hv20 hj2_L1_6l (by decide)
        refine lv_aload_n hx hb dX10_thinks_23 rfl (lv_at hl 0 rfl) ?_
        refine ti_getr hx hb hts inlX10 hown hK hT ha0 rfl rfl rfl 1 (by decide) (hts _ kw_130) (fun _ h9 => h9) rfl dX10_thinks_24 (fun v24 hv24 hm24 => ?_)
        refine lv_iload_n hx hb dX10_thinks_27 rfl (lv_at hl 1 rfl) ?_
        refine ti_ialdD hx hb (aT0 hK) hT hv24 rfl hj2_L1_6l (by decide) (fun j => wfg_i j) dX10_thinks_28 (fun v28 dv28 hm28 => ?_)
        refine ti_iast hx hb (aT0 hK) hT hS hv10 rfl rfl hv22 (by decide) (kept_st hν3 (by decide) (by decide)) (iv_top v28) (fun _ _ => trivial) dX10_thinks_29 (fun H locs hT hS oq29 he29 hk29 => ?_)
        obtain ⟨v30, e30⟩ : ∃ y : Int32, y = j2_L1 + 1 := ⟨_, rfl⟩
        have hv30 : iv v30 1 178 := by rw [e30]; exact iv_w (iv_add hj2_L1_6l (iv_c (x := (1 : Int32)) (k := 1) (by decide)) (by decide)) (by decide)
        have s30 : v30.toInt = j2_L1.toInt + 1 := by rw [e30, iv_addE hj2_L1_6l (iv_c (x := (1 : Int32)) (k := 1) (by decide)) (by decide)]; rfl
        refine lv_iinc (v := v30) (lv' := [(1, .int v30), (0, .ref a0)]) hx hb dX10_thinks_30 hl (k := 1) rfl (by rw [e30]; rfl) (by decide) rfl (fun ls hl => ?_)
        refine lv_goto (tgt := 2) hx hb dX10_thinks_33 (by decide) ?_
        exact ih2 v30 _ _ _ (ms_up hms2 (by have := s30; omega) (iv_w (c := 1) (d := 178) hv30 (by decide)).2) (iv_w hv30 (by decide)) (fun q hq => by
            have e9 := hU 41 q v10 (by decide) hq hv10
            subst e9
            exact cpy_step (hX2_0 _ hq) he29 hk29 (by have b0a := (hj2_L1_6l).1; have b0b := (hj2_L1_6l).2; have b1a := (hv17).1; have b1b := (hv17).2; have b2a := (hv20).1; have b2b := (hv20).2; have b3a := (hv22).1; have b3b := (hv22).2; have b4a := ((iv_top v28)).1; have b4b := ((iv_top v28)).2; have b5a := (hv30).1; have b5b := (hv30).2; show v22.toInt.toNat = 0 + j2_L1.toInt.toNat; omega) (by have b0a := (hj2_L1_6l).1; have b0b := (hj2_L1_6l).2; have b1a := (hv17).1; have b1b := (hv17).2; have b2a := (hv20).1; have b2b := (hv20).2; have b3a := (hv22).1; have b3b := (hv22).2; have b4a := ((iv_top v28)).1; have b4b := ((iv_top v28)).2; have b5a := (hv30).1; have b5b := (hv30).2; show v30.toInt.toNat = j2_L1.toInt.toNat + 1; omega) dv28) (fun q hq w hw => by
            have e9 := hU 41 q v10 (by decide) hq hv10
            subst e9
            have e9 := hU 30 w v24 (by decide) hw hv24
            subst e9
            exact cpy_eq (hX2_1 _ hq _ hw) he29 hk29 (oq29 _ (ne_r hw hq rfl)) hm28 (by have b0a := (hj2_L1_6l).1; have b0b := (hj2_L1_6l).2; have b1a := (hv17).1; have b1b := (hv17).2; have b2a := (hv20).1; have b2b := (hv20).2; have b3a := (hv22).1; have b3b := (hv22).2; have b4a := ((iv_top v28)).1; have b4b := ((iv_top v28)).2; have b5a := (hv30).1; have b5b := (hv30).2; show v22.toInt.toNat = j2_L1.toInt.toNat; omega) rfl (by have b0a := (hj2_L1_6l).1; have b0b := (hj2_L1_6l).2; have b1a := (hv17).1; have b1b := (hv17).2; have b2a := (hv20).1; have b2b := (hv20).2; have b3a := (hv22).1; have b3b := (hv22).2; have b4a := ((iv_top v28)).1; have b4b := ((iv_top v28)).2; have b5a := (hv30).1; have b5b := (hv30).2; show v30.toInt.toNat = j2_L1.toInt.toNat + 1; omega)) hT hS (lv_sub hl [1, 0] rfl)
  refine lv_istore_n (lv' := [(1, .int (0 : Int32)), (0, .ref a0)]) hx hb dX10_thinks_1 rfl hl (by decide) rfl (fun ls hl => ?_)
  exact J2 _ (0 : Int32) _ _ _ (Nat.lt_succ_self _) (iv_w (iv_c (x := (0 : Int32)) (k := 0) (by decide)) (by decide)) (fun q hq j hj => absurd hj nlt0) (fun q hq w hw j hj => absurd hj nlt0) hT hS (lv_sub hl [1, 0] rfl)
set_option maxHeartbeats 4000000 in
set_option maxRecDepth 100000 in
theorem t_X10_wakes_e (l : Launch) {D : va_G} {c0 : Nat → ClassId} {Y : Nat → Option Nat} {ν : Nat → Nat} {H : Heap} (hT : TI D vwCl (tysOf c0) (RTg ν) Y H) {a0 : Nat} (ha0 : Y a0 = some 10) (hν3 : ν 3 = 178) (hν5 : ν 5 = 1) (hU : uq Y) : Met l yX10_wakes (wz yX10_wakes cX10_wakes 2 none) { frames := 0, cells := 0, slots := 0, locals := 0 } (TP D vwCl (tysOf c0) H [.ref a0]) (TQv (fun H' => TI D vwCl (tysOf c0) (RTg (νw ν)) Y H' ∧ ((∀ q, Y q = some 41 → ∀ w, Y w = some 30 → ∀ j : Nat, j < 178 → ∃ v : Value, am w j v H' ∧ am q j v H'))) Y [10, 30]) 0 0 (pW Y [10, 30]) := by
  refine Met.ofW (cc := cX10_wakes) (maxL := 2) (ret := none) (by decide) rfl ?_
  intro p e s m args below meth c s₁ B hml hv
  obtain ⟨rfl, rfl, hK⟩ := hv
  have hx := B.exec
  have hb := B.bytes
  have hr := B.returns
  have hts : ∀ w ∈ wq, w.before _ s = true := fun w h => atoms_spec (ws := wz yX10_wakes cX10_wakes 2 none) B.pre w (List.mem_cons_of_mem _ h)
  have hown : s.vm.findClass RX10 = some m.cls := findClass_of_methodNamed B.named
  have hlocks := B.notSynchronized
  obtain ⟨R, hR⟩ : ∃ R : Room, R = ({ frames := 0, cells := 0, slots := 0, locals := 0 } : Room) := ⟨_, rfl⟩
  rw [show (headSpec (wz yX10_wakes cX10_wakes 2 none) { frames := 0, cells := 0, slots := 0, locals := 0 }).room = R from hR.symm]
  refine ti_mv hx hb hr hlocks (fun Q ret => ?_)
  have hl := lv_entry [.ref a0] (n := 2) (Nat.le_of_ble_eq_true rfl)
  rw [lg_entry_eq]
  generalize (lg_sl [.ref a0] ++ List.replicate (2 - (lg_sl [.ref a0]).length) Slot.unset).toArray = ls at hl ⊢
  have hl : lv_has ls 2 [(0, .ref a0)] := hl
  refine ti_gen (P := fun H => TI D vwCl (tysOf c0) (RTg ν) Y H) (Y := Y) (ws := [10, 30]) hT (fun H locs hT hS => ?_)
  refine lv_aload_n hx hb dX10_wakes_0 rfl (lv_at hl 0 rfl) ?_
  refine lv_dup hx hb dX10_wakes_1 rfl ?_
  refine ti_geti hx hb hts inlX10 hown hK hT ha0 rfl rfl rfl 19 (by decide) (hts _ kw_823) (fun _ h9 => h9) rfl dX10_wakes_2 (fun v2 hz2 hm2 => ?_)
  have hv2 : iv v2 1 1 := by have z := hz2; rw [hν5] at z; exact z
  refine lv_iconst (v := 1) hx hb dX10_wakes_5 (by decide) ?_
  refine lv_isub hx hb dX10_wakes_6 ?_
  refine lv_topi (fun v6 e6 => ?_)
  have hv6 : iv v6 0 0 := by rw [e6]; exact iv_w (iv_sub hv2 (iv_c (x := (1 : Int32)) (k := 1) (by decide)) (by decide)) (by decide)
  have s6 : v6.toInt = v2.toInt - (1 : Int32).toInt := by rw [e6]; exact iv_subE hv2 (iv_c (x := (1 : Int32)) (k := 1) (by decide)) (by decide)
  have kl1 : (1 : Int32).toInt = 1 := by decide
  obtain ⟨fs, hat, hln, hfs, -⟩ := ti_obj hT ha0 L10_eq
  have hln : fs.length = 38 := hln
  refine xput (ci := 10) (v := .int v6) (ty := .int) (C := RX10) (T := TX10) (N := 38) (A := pW Y [10, 30]) hx hb hts inlX10 tyX10 tyX10_ok nmX10 hown hK hat hS ⟨10, rfl, ha0⟩ rfl 19 (by decide) (hts _ kw_823) (fun _ h9 => h9) rfl (by omega) (by decide +kernel) rfl rfl dX10_wakes_7 (fun H locs hat2 hS ob => ?_)
  have hT := wake_put hU hT ha0 hfs hln (iv_w hv6 (by decide)) hat2 ob
  refine lv_iconst (v := 0) hx hb dX10_wakes_10 (by decide) ?_
  have J12 : ∀ (n : Nat) (j12_L1 : Int32) (H : Heap) (locs : List Loc) (ls : Array Slot), (178 - j12_L1.toInt).toNat < n → iv j12_L1 0 178 → ((∀ q, Y q = some 41 → ∀ w, Y w = some 30 → ∀ j : Nat, j < j12_L1.toNatClampNeg → ∃ v : Value, am w j v H ∧ am q j v H)) → TI D vwCl (tysOf c0) (RTg (νd ν)) Y H → va_S (pW Y [10, 30]) s.heap H locs → lv_has ls 2 [(0, .ref a0), (1, .int j12_L1)] → W p l e R s m ([.ref a0] : List Value).toArray below meth c H locs 0 0 Q (F0 m 12 ls []) := by
    intro n
    induction n with
    | zero => intro j12_L1 H locs ls hms; exact absurd hms (Nat.not_lt_zero _)
    | succ n ih12 =>
      intro j12_L1 H locs ls hms12 hj12_L1 hX12_0 hT hS hl
      refine lv_iload_n hx hb dX10_wakes_12 rfl (lv_at hl 1 rfl) ?_
      refine lv_sipush (v := 178) hx hb dX10_wakes_13 (by decide) ?_
      refine lv_icmp_ge (tgt := 46) hx hb dX10_wakes_16 (by decide) (fun c16 => ?_) (fun c16 => ?_)
      · skip
        have kl178 : (178 : Int32).toInt = 178 := by decide
        have f16 := i_le c16
        have hj12_L1_16r : iv j12_L1 178 178 := iv_ler (iv_c (x := (178 : Int32)) (k := 178) (by decide)) hj12_L1 c16 (by decide)
        refine lv_aload_n hx hb dX10_wakes_46 rfl (lv_at hl 0 rfl) ?_
        refine lv_aload_n hx hb dX10_wakes_47 rfl (lv_at hl 0 rfl) ?_
        refine ti_getr hx hb hts inlX10 hown hK hT ha0 rfl rfl rfl 18 (by decide) (hts _ kw_139) (fun _ h9 => h9) rfl dX10_wakes_48 (fun v48 hv48 hm48 => ?_)
        refine lv_aload_n hx hb dX10_wakes_51 rfl (lv_at hl 0 rfl) ?_
        refine ti_geti hx hb hts inlX10 hown hK hT ha0 rfl rfl rfl 19 (by decide) (hts _ kw_823) (fun _ h9 => h9) rfl dX10_wakes_52 (fun v52 hz52 hm52 => ?_)
        have hv52 : iv v52 0 0 := by exact hz52
        refine ti_lald hx hb (aT3 hK) hT hv48 rfl hv52 (by decide) (fun _ _ _ => rfl) dX10_wakes_55 (fun v55 hm55 => ?_)
        refine ti_put (ty := .long) hx hb hts inlX10 tyX10 tyX10_ok nmX10 hown hK hT hS ha0 rfl rfl rfl rfl 16 (by decide) (hts _ kw_382) (fun _ h9 => h9) rfl rfl (by decide +kernel) rfl rfl ⟨v55, rfl⟩ (fun _ _ => trivial) dX10_wakes_56 (fun H locs hT hS oq56 he56 hk56 => ?_)
        exact ret _ _ _ _ dX10_wakes_59 (⟨wake_end hT, (fun q hq w hw j hj => by
      obtain ⟨v, g1, g2⟩ := hX12_0 q hq w hw j (by have b0a := (hv2).1; have b0b := (hv2).2; have b1a := (hv6).1; have b1b := (hv6).2; have b2a := (hj12_L1_16r).1; have b2b := (hj12_L1_16r).2; have b3a := (hv52).1; have b3b := (hv52).2; have b4a := ((jv_top v55)).1; have b4b := ((jv_top v55)).2; show j < j12_L1.toInt.toNat; omega)
      exact ⟨v, g1.kept (oq56 _ (ne_r hw ha0 rfl)), g2.kept (oq56 _ (ne_r hq ha0 rfl))⟩)⟩) hS
      · skip
        have kl178 : (178 : Int32).toInt = 178 := by decide
        have f16 := i_nle c16
        have hj12_L1_16l : iv j12_L1 0 177 := iv_ltl hj12_L1 (iv_c (x := (178 : Int32)) (k := 178) (by decide)) (Int32.not_le.mp c16) (by decide)
        refine lv_aload_n hx hb dX10_wakes_19 rfl (lv_at hl 0 rfl) ?_
        refine ti_getr hx hb hts inlX10 hown hK hT ha0 rfl rfl rfl 1 (by decide) (hts _ kw_130) (fun _ h9 => h9) rfl dX10_wakes_20 (fun v20 hv20 hm20 => ?_)
        refine lv_iload_n hx hb dX10_wakes_23 rfl (lv_at hl 1 rfl) ?_
        refine lv_aload_n hx hb dX10_wakes_24 rfl (lv_at hl 0 rfl) ?_
        refine ti_getr hx hb hts inlX10 hown hK hT ha0 rfl rfl rfl 17 (by decide) (hts _ kw_138) (fun _ h9 => h9) rfl dX10_wakes_25 (fun v25 hv25 hm25 => ?_)
        refine lv_sipush (v := 178) hx hb dX10_wakes_28 (by decide) ?_
        refine lv_aload_n hx hb dX10_wakes_31 rfl (lv_at hl 0 rfl) ?_
        refine ti_geti hx hb hts inlX10 hown hK hT ha0 rfl rfl rfl 19 (by decide) (hts _ kw_823) (fun _ h9 => h9) rfl dX10_wakes_32 (fun v32 hz32 hm32 => ?_)
        have hv32 : iv v32 0 0 := by exact hz32
        refine lv_imul hx hb dX10_wakes_35 ?_
        refine lv_topi (fun v35 e35 => ?_)
        have hv35 : iv v35 0 0 := by rw [e35]; exact iv_mul (iv_c (x := (178 : Int32)) (k := 178) (by decide)) hv32 (by decide)
        have s35 : v35.toInt = (178 : Int32).toInt * v32.toInt := by rw [e35]; exact iv_mulE (iv_c (x := (178 : Int32)) (k := 178) (by decide)) hv32 (by decide)
        have s35 : v35.toInt = 178 * v32.toInt := by rw [s35]; simp only [show (178 : Int32).toInt = 178 from by decide]; try omega
        refine lv_iload_n hx hb dX10_wakes_36 rfl (lv_at hl 1 rfl) ?_
        refine lv_iadd hx hb dX10_wakes_37 ?_
        refine lv_topi (fun v37 e37 => ?_)
        have hv37 : iv v37 0 177 := by rw [e37]; exact iv_w (iv_add hv35 hj12_L1_16l (by decide)) (by decide)
        have s37 : v37.toInt = v35.toInt + j12_L1.toInt := by rw [e37]; exact iv_addE hv35 hj12_L1_16l (by decide)
        refine ti_ialdD hx hb (aT0 hK) hT hv25 rfl hv37 (by decide) (fun j => kept_i j) dX10_wakes_38 (fun v38 dv38 hm38 => ?_)
        refine ti_iastD hx hb (aT0 hK) hT hS hv20 rfl rfl hj12_L1_16l (by decide) (kept_g dv38 hν3 (by have b0a := (hv2).1; have b0b := (hv2).2; have b1a := (hv6).1; have b1b := (hv6).2; have b2a := (hj12_L1_16l).1; have b2b := (hj12_L1_16l).2; have b3a := (hv32).1; have b3b := (hv32).2; have b4a := (hv35).1; have b4b := (hv35).2; have b5a := (hv37).1; have b5b := (hv37).2; have b6a := ((iv_top v38)).1; have b6b := ((iv_top v38)).2; show v37.toInt.toNat = j12_L1.toInt.toNat; omega) (by have b0a := (hv2).1; have b0b := (hv2).2; have b1a := (hv6).1; have b1b := (hv6).2; have b2a := (hj12_L1_16l).1; have b2b := (hj12_L1_16l).2; have b3a := (hv32).1; have b3b := (hv32).2; have b4a := (hv35).1; have b4b := (hv35).2; have b5a := (hv37).1; have b5b := (hv37).2; have b6a := ((iv_top v38)).1; have b6b := ((iv_top v38)).2; show j12_L1.toInt.toNat < 178; omega)) (fun _ _ => trivial) dX10_wakes_39 (fun H locs hT hS oq39 he39 hk39 => ?_)
        obtain ⟨v40, e40⟩ : ∃ y : Int32, y = j12_L1 + 1 := ⟨_, rfl⟩
        have hv40 : iv v40 1 178 := by rw [e40]; exact iv_w (iv_add hj12_L1_16l (iv_c (x := (1 : Int32)) (k := 1) (by decide)) (by decide)) (by decide)
        have s40 : v40.toInt = j12_L1.toInt + 1 := by rw [e40, iv_addE hj12_L1_16l (iv_c (x := (1 : Int32)) (k := 1) (by decide)) (by decide)]; rfl
        refine lv_iinc (v := v40) (lv' := [(1, .int v40), (0, .ref a0)]) hx hb dX10_wakes_40 hl (k := 1) rfl (by rw [e40]; rfl) (by decide) rfl (fun ls hl => ?_)
        refine lv_goto (tgt := 12) hx hb dX10_wakes_43 (by decide) ?_
        exact ih12 v40 _ _ _ (ms_up hms12 (by have := s40; omega) (iv_w (c := 1) (d := 178) hv40 (by decide)).2) (iv_w hv40 (by decide)) (fun q hq w hw => by
            have e9 := hU 41 q v25 (by decide) hq hv25
            subst e9
            have e9 := hU 30 w v20 (by decide) hw hv20
            subst e9
            exact cpy_eq (hX12_0 _ hq _ hw) he39 hk39 (oq39 _ (ne_r hq hw rfl)) hm38 rfl (by have b0a := (hv2).1; have b0b := (hv2).2; have b1a := (hv6).1; have b1b := (hv6).2; have b2a := (hj12_L1_16l).1; have b2b := (hj12_L1_16l).2; have b3a := (hv32).1; have b3b := (hv32).2; have b4a := (hv35).1; have b4b := (hv35).2; have b5a := (hv37).1; have b5b := (hv37).2; have b6a := ((iv_top v38)).1; have b6b := ((iv_top v38)).2; have b7a := (hv40).1; have b7b := (hv40).2; show v37.toInt.toNat = j12_L1.toInt.toNat; omega) (by have b0a := (hv2).1; have b0b := (hv2).2; have b1a := (hv6).1; have b1b := (hv6).2; have b2a := (hj12_L1_16l).1; have b2b := (hj12_L1_16l).2; have b3a := (hv32).1; have b3b := (hv32).2; have b4a := (hv35).1; have b4b := (hv35).2; have b5a := (hv37).1; have b5b := (hv37).2; have b6a := ((iv_top v38)).1; have b6b := ((iv_top v38)).2; have b7a := (hv40).1; have b7b := (hv40).2; show v40.toInt.toNat = j12_L1.toInt.toNat + 1; omega)) hT hS (lv_sub hl [1, 0] rfl)
  refine lv_istore_n (lv' := [(1, .int (0 : Int32)), (0, .ref a0)]) hx hb dX10_wakes_11 rfl hl (by decide) rfl (fun ls hl => ?_)
  exact J12 _ (0 : Int32) _ _ _ (Nat.lt_succ_self _) (iv_w (iv_c (x := (0 : Int32)) (k := 0) (by decide)) (by decide)) (fun q hq w hw j hj => absurd hj nlt0) hT hS (lv_sub hl [1, 0] rfl)
set_option maxHeartbeats 4000000 in
set_option maxRecDepth 100000 in
theorem t_X10_canHide_e (l : Launch) {D : va_G} {c0 : Nat → ClassId} {Y : Nat → Option Nat} {ν : Nat → Nat} {H : Heap} (hT : TI D vwCl (tysOf c0) (RTg ν) Y H) {a0 : Nat} (ha0 : Y a0 = some 10) {x1 : Int32} (hx1 : iv x1 (-2147483648) 2147483647) {x2 : Int32} (hx2 : iv x2 (-2147483648) 2147483647) (hU : uq Y) : Met l yX10_canHide (wz yX10_canHide cX10_canHide 3 (some .boolean)) { frames := 2, cells := 0, slots := 0, locals := 46 } (TP D vwCl (tysOf c0) H [.ref a0, .int x1, .int x2]) (TQi (fun x H' => H' = H ∧ iv x 0 1 ∧ ((x.toInt = 0 ∨ ((0 ≤ x1.toInt ∧ x1.toInt ≤ 7) ∧ (0 ≤ x2.toInt ∧ x2.toInt ≤ 100000) ∧ ∃ k9 : Int32, x2.toInt ≤ k9.toInt ∧ wv D a0 (16 + 10 * x1.toNatClampNeg) k9 H)))) Y []) 0 0 (pW Y []) := by
  refine Met.ofW (cc := cX10_canHide) (maxL := 3) (ret := (some .boolean)) (by decide) rfl ?_
  intro p e s m args below meth c s₁ B hml hv
  obtain ⟨rfl, rfl, hK⟩ := hv
  have hx := B.exec
  have hb := B.bytes
  have hr := B.returns
  have hts : ∀ w ∈ wq, w.before _ s = true := fun w h => atoms_spec (ws := wz yX10_canHide cX10_canHide 3 (some .boolean)) B.pre w (List.mem_cons_of_mem _ h)
  have hown : s.vm.findClass RX10 = some m.cls := findClass_of_methodNamed B.named
  have hlocks := B.notSynchronized
  obtain ⟨R, hR⟩ : ∃ R : Room, R = ({ frames := 2, cells := 0, slots := 0, locals := 46 } : Room) := ⟨_, rfl⟩
  rw [show (headSpec (wz yX10_canHide cX10_canHide 3 (some .boolean)) { frames := 2, cells := 0, slots := 0, locals := 46 }).room = R from hR.symm]
  refine ti_mz hx hb hr hlocks (fun Q ret => ?_)
  have hl := lv_entry [.ref a0, .int x1, .int x2] (n := 3) (Nat.le_of_ble_eq_true rfl)
  rw [lg_entry_eq]
  generalize (lg_sl [.ref a0, .int x1, .int x2] ++ List.replicate (3 - (lg_sl [.ref a0, .int x1, .int x2]).length) Slot.unset).toArray = ls at hl ⊢
  have hl : lv_has ls 3 [(0, .ref a0), (1, .int x1), (2, .int x2)] := hl
  have hS : va_S (pW Y []) s.heap s.heap [] := va_S.rf
  refine lv_aload_n hx hb dX10_canHide_0 rfl (lv_at hl 0 rfl) ?_
  refine lv_iload_n hx hb dX10_canHide_1 rfl (lv_at hl 1 rfl) ?_
  refine ti_calli (va_runV (As := [.int x1]) (rest := []) ⟨hx, hb, hml, hown, hts⟩ (t_X10_isPerson l hT ha0 (iv_w hx1 (by decide)) hU) (cwV 1 hts (good_V kw_486 kw_487 kw_488 kw_5 kw_489) rfl rfl rfl (by decide +kernel) ⟨by rw [hR]; decide, by rw [hR]; decide⟩) (ti_preV hK hT ha0 rfl rfl) rfl rfl hl.1 rfl (lv_room (Nat.le_of_ble_eq_true rfl)) dX10_canHide_2 ⟨Nat.zero_le _, Nat.zero_le _⟩) hS (pW_sub rfl) (fun v2 H1 locs hB hS _ hk2 => ?_)
  obtain ⟨hH, hv2, hp2⟩ := hB
  rw [hH] at hS ⊢
  refine lv_if_eq (tgt := 28) hx hb dX10_canHide_5 (by decide) (fun c5 => ?_) (fun c5 => ?_)
  · skip
    have kl0 : (0 : Int32).toInt = 0 := by decide
    have f5 := i_eq c5
    have hv2_5l : iv v2 0 0 := iv_eql hv2 (iv_c (x := (0 : Int32)) (k := 0) (by decide)) c5 (by decide)
    refine lv_iconst (v := 0) hx hb dX10_canHide_28 (by decide) ?_
    exact ret _ _ _ _ _ dX10_canHide_29 (iv_w (iv_c (x := (0 : Int32)) (k := 0) (by decide)) (by decide)) (⟨rfl, iv_w (iv_c (x := (0 : Int32)) (k := 0) (by decide)) (by decide), Or.inl (by decide)⟩) hS
  · skip
    have kl0 : (0 : Int32).toInt = 0 := by decide
    have f5 := i_ne c5
    have hv2_5l : iv v2 1 1 := iv_nel hv2 (iv_c (x := (0 : Int32)) (k := 0) (by decide)) c5 (by decide)
    have hx1_5p : iv x1 0 7 := by have b0a := (hx1).1; have b0b := (hx1).2; exact ⟨by omega, by omega⟩
    refine lv_iload_n hx hb dX10_canHide_8 rfl (lv_at hl 2 rfl) ?_
    refine lv_i2l hx hb dX10_canHide_9 rfl ?_
    refine lv_topl (fun v9 e9 => ?_)
    have hv9 : jv v9 (-2147483648) 2147483647 := by rw [e9]; exact jv_i hx2
    have t9 : v9.toInt = x2.toInt := by rw [e9]; exact jv_e _
    refine lv_lconst (v := 0) hx hb dX10_canHide_10 (by decide) ?_
    have kj0 : (0 : Int64).toInt = 0 := by decide
    refine lv_aload_n hx hb dX10_canHide_11 rfl (lv_at hl 0 rfl) ?_
    refine lv_iload_n hx hb dX10_canHide_12 rfl (lv_at hl 1 rfl) ?_
    refine lv_iconst (v := 0) hx hb dX10_canHide_13 (by decide) ?_
    refine ti_calli (va_runV (As := [.int x1, .int (0 : Int32)]) (rest := [.long (0 : Int64), .long v9]) ⟨hx, hb, hml, hown, hts⟩ (t_X10_of l hT ha0 (iv_w hx1_5p (by decide)) (iv_w (iv_c (x := (0 : Int32)) (k := 0) (by decide)) (by decide)) hU) (cwV 2 hts (good_V kw_490 kw_491 kw_492 kw_5 kw_493) rfl rfl rfl (by decide +kernel) ⟨by rw [hR]; decide, by rw [hR]; decide⟩) (ti_preV hK hT ha0 rfl rfl) rfl rfl hl.1 rfl (lv_room (Nat.le_of_ble_eq_true rfl)) dX10_canHide_14 ⟨Nat.zero_le _, Nat.zero_le _⟩) hS (pW_sub rfl) (fun v14 H1 locs hB hS _ hk14 => ?_)
    obtain ⟨hH, hp14⟩ := hB
    rw [hH] at hS ⊢
    have hf14 : iv v14 (-2147483648) 100000 := by have b0a := ((iv_top v14)).1; have b0b := ((iv_top v14)).2; exact ⟨by omega, by omega⟩
    refine lv_i2l hx hb dX10_canHide_17 rfl ?_
    refine lv_topl (fun v17 e17 => ?_)
    have hv17 : jv v17 (-2147483648) 100000 := by rw [e17]; exact jv_i hf14
    have t17 : v17.toInt = v14.toInt := by rw [e17]; exact jv_e _
    refine ti_calli (va_runS (As := [.long v9, .long (0 : Int64), .long v17]) (rest := []) ⟨hx, hb, hml, hown, hts⟩ (t_X10_in l hT (jv_w hv9 (by decide)) (jv_w (jv_c (x := (0 : Int64)) (k := 0) (by decide)) (by decide)) (jv_w hv17 (by decide))) (cwS 3 hts (good_S kw_181 kw_182 kw_5 kw_183) rfl rfl rfl (by decide +kernel) ⟨by rw [hR]; decide, by rw [hR]; decide⟩) (ti_preS hK) rfl rfl hl.1 rfl (lv_room (Nat.le_of_ble_eq_true rfl)) dX10_canHide_18 ⟨Nat.zero_le _, Nat.zero_le _⟩) hS (pW_sub rfl) (fun v18 H1 locs hB hS _ hk18 => ?_)
    obtain ⟨hH, hv18, hp18⟩ := hB
    rw [hH] at hS ⊢
    refine lv_if_eq (tgt := 28) hx hb dX10_canHide_21 (by decide) (fun c21 => ?_) (fun c21 => ?_)
    · skip
      have f21 := i_eq c21
      have hv18_21l : iv v18 0 0 := iv_eql hv18 (iv_c (x := (0 : Int32)) (k := 0) (by decide)) c21 (by decide)
      refine lv_iconst (v := 0) hx hb dX10_canHide_28 (by decide) ?_
      exact ret _ _ _ _ _ dX10_canHide_29 (iv_w (iv_c (x := (0 : Int32)) (k := 0) (by decide)) (by decide)) (⟨rfl, iv_w (iv_c (x := (0 : Int32)) (k := 0) (by decide)) (by decide), Or.inl (by decide)⟩) hS
    · skip
      have f21 := i_ne c21
      have hv18_21l : iv v18 1 1 := iv_nel hv18 (iv_c (x := (0 : Int32)) (k := 0) (by decide)) c21 (by decide)
      have hv9_21p : jv v9 0 100000 := by have b0a := (hv9).1; have b0b := (hv9).2; have b1a := ((jv_c (x := (0 : Int64)) (k := 0) (by decide))).1; have b1b := ((jv_c (x := (0 : Int64)) (k := 0) (by decide))).2; have b2a := (hv17).1; have b2b := (hv17).2; exact ⟨by omega, by omega⟩
      have hx2_21p : iv x2 0 100000 := by have := t9; have b0a := (hv9_21p).1; have b0b := (hv9_21p).2; have b1a := (hx2).1; have b1b := (hx2).2; exact ⟨by omega, by omega⟩
      refine lv_iconst (v := 1) hx hb dX10_canHide_24 (by decide) ?_
      refine lv_goto (tgt := 29) hx hb dX10_canHide_25 (by decide) ?_
      have kl1 : (1 : Int32).toInt = 1 := by decide
      exact ret _ _ _ _ _ dX10_canHide_29 (iv_w (iv_c (x := (1 : Int32)) (k := 1) (by decide)) (by decide)) (⟨rfl, iv_w (iv_c (x := (1 : Int32)) (k := 1) (by decide)) (by decide), Or.inr ⟨⟨by have b0a := (hx1_5p).1; have b0b := (hx1_5p).2; have b1a := (hx2_21p).1; have b1b := (hx2_21p).2; have b2a := (hv2_5l).1; have b2b := (hv2_5l).2; have b3a := (hv9_21p).1; have b3b := (hv9_21p).2; have b4a := (hf14).1; have b4b := (hf14).2; have b5a := (hv17).1; have b5b := (hv17).2; have b6a := (hv18_21l).1; have b6b := (hv18_21l).2; omega, by have b0a := (hx1_5p).1; have b0b := (hx1_5p).2; have b1a := (hx2_21p).1; have b1b := (hx2_21p).2; have b2a := (hv2_5l).1; have b2b := (hv2_5l).2; have b3a := (hv9_21p).1; have b3b := (hv9_21p).2; have b4a := (hf14).1; have b4b := (hf14).2; have b5a := (hv17).1; have b5b := (hv17).2; have b6a := (hv18_21l).1; have b6b := (hv18_21l).2; omega⟩, ⟨by have b0a := (hx1_5p).1; have b0b := (hx1_5p).2; have b1a := (hx2_21p).1; have b1b := (hx2_21p).2; have b2a := (hv2_5l).1; have b2b := (hv2_5l).2; have b3a := (hv9_21p).1; have b3b := (hv9_21p).2; have b4a := (hf14).1; have b4b := (hf14).2; have b5a := (hv17).1; have b5b := (hv17).2; have b6a := (hv18_21l).1; have b6b := (hv18_21l).2; omega, by have b0a := (hx1_5p).1; have b0b := (hx1_5p).2; have b1a := (hx2_21p).1; have b1b := (hx2_21p).2; have b2a := (hv2_5l).1; have b2b := (hv2_5l).2; have b3a := (hv9_21p).1; have b3b := (hv9_21p).2; have b4a := (hf14).1; have b4b := (hf14).2; have b5a := (hv17).1; have b5b := (hv17).2; have b6a := (hv18_21l).1; have b6b := (hv18_21l).2; omega⟩, v14, by have b0a := (hx1_5p).1; have b0b := (hx1_5p).2; have b1a := (hx2_21p).1; have b1b := (hx2_21p).2; have b2a := (hv2_5l).1; have b2b := (hv2_5l).2; have b3a := (hv9_21p).1; have b3b := (hv9_21p).2; have b4a := (hf14).1; have b4b := (hf14).2; have b5a := (hv17).1; have b5b := (hv17).2; have b6a := (hv18_21l).1; have b6b := (hv18_21l).2; omega, hp14.2⟩⟩) hS
set_option maxHeartbeats 4000000 in
set_option maxRecDepth 100000 in
theorem t_X10_stillWorth (l : Launch) {D : va_G} {c0 : Nat → ClassId} {Y : Nat → Option Nat} {ν : Nat → Nat} {H : Heap} (hT : TI D vwCl (tysOf c0) (RTg ν) Y H) {a0 : Nat} (ha0 : Y a0 = some 10) {x1 : Int32} (hx1 : iv x1 0 7) {x2 : Int32} (hx2 : iv x2 (-2147483648) 100000) {x3 : Int32} (hx3 : iv x3 0 100000) (hν3 : ν 3 = 0) (hν5 : ν 5 = 0) (hU : uq Y) : Met l yX10_stillWorth (wz yX10_stillWorth cX10_stillWorth 5 (some .int)) { frames := 5, cells := 0, slots := 0, locals := 165 } (TP D vwCl (tysOf c0) H [.ref a0, .int x1, .int x2, .int x3]) (TQi (fun x H' => TI D vwCl (tysOf c0) (RTg ν) Y H' ∧ ((∀ w, Y w = some 30 → ∀ (j : Nat) (v : Value), j < 178 → am w j v H → am w j v H'))) Y [10, 29, 30, 41, 42]) 0 0 (pW Y [10, 29, 30, 41, 42]) := by
  refine Met.ofW (cc := cX10_stillWorth) (maxL := 5) (ret := (some .int)) (by decide) rfl ?_
  intro p e s m args below meth c s₁ B hml hv
  obtain ⟨rfl, rfl, hK⟩ := hv
  have hx := B.exec
  have hb := B.bytes
  have hr := B.returns
  have hts : ∀ w ∈ wq, w.before _ s = true := fun w h => atoms_spec (ws := wz yX10_stillWorth cX10_stillWorth 5 (some .int)) B.pre w (List.mem_cons_of_mem _ h)
  have hown : s.vm.findClass RX10 = some m.cls := findClass_of_methodNamed B.named
  have hlocks := B.notSynchronized
  obtain ⟨R, hR⟩ : ∃ R : Room, R = ({ frames := 5, cells := 0, slots := 0, locals := 165 } : Room) := ⟨_, rfl⟩
  rw [show (headSpec (wz yX10_stillWorth cX10_stillWorth 5 (some .int)) { frames := 5, cells := 0, slots := 0, locals := 165 }).room = R from hR.symm]
  refine ti_mi hx hb hr hlocks (fun Q ret => ?_)
  have hl := lv_entry [.ref a0, .int x1, .int x2, .int x3] (n := 5) (Nat.le_of_ble_eq_true rfl)
  rw [lg_entry_eq]
  generalize (lg_sl [.ref a0, .int x1, .int x2, .int x3] ++ List.replicate (5 - (lg_sl [.ref a0, .int x1, .int x2, .int x3]).length) Slot.unset).toArray = ls at hl ⊢
  have hl : lv_has ls 5 [(0, .ref a0), (1, .int x1), (2, .int x2), (3, .int x3)] := hl
  refine ti_gen (P := fun H => TI D vwCl (tysOf c0) (RTg ν) Y H ∧ (H = s.heap)) (Y := Y) (ws := [10, 29, 30, 41, 42]) ⟨hT, rfl⟩ (fun H locs hT hS => ?_)
  obtain ⟨hT, hHs⟩ := hT
  refine lv_aload_n hx hb dX10_stillWorth_0 rfl (lv_at hl 0 rfl) ?_
  refine lv_iload_n hx hb dX10_stillWorth_1 rfl (lv_at hl 1 rfl) ?_
  refine ti_callv (va_runV (As := [.int x1]) (rest := []) ⟨hx, hb, hml, hown, hts⟩ (t_X10_guesses l hT ha0 (iv_w hx1 (by decide)) hU) (cwV 1 hts (good_V kw_952 kw_953 kw_954 kw_5 kw_955) rfl rfl rfl (by decide +kernel) ⟨by rw [hR]; decide, by rw [hR]; decide⟩) (ti_preV hK hT ha0 rfl rfl) rfl rfl hl.1 rfl (lv_room (Nat.le_of_ble_eq_true rfl)) dX10_stillWorth_2 ⟨Nat.zero_le _, Nat.zero_le _⟩) hS (pW_sub rfl) (fun H locs hB hS _ hk2 => ?_)
  have hT := hB
  refine lv_aload_n hx hb dX10_stillWorth_5 rfl (lv_at hl 0 rfl) ?_
  refine ti_callv (va_runV (As := []) (rest := []) ⟨hx, hb, hml, hown, hts⟩ (t_X10_thinks_e l hT ha0 hν3 hν5 hU) (cwV 0 hts (good_V kw_819 kw_820 kw_821 kw_5 kw_822) rfl rfl rfl (by decide +kernel) ⟨by rw [hR]; decide, by rw [hR]; decide⟩) (ti_preV hK hT ha0 rfl rfl) rfl rfl hl.1 rfl (lv_room (Nat.le_of_ble_eq_true rfl)) dX10_stillWorth_6 ⟨Nat.zero_le _, Nat.zero_le _⟩) hS (pW_sub rfl) (fun H locs hB hS _ hk6 => ?_)
  obtain ⟨hT, hp6⟩ := hB
  refine lv_aload_n hx hb dX10_stillWorth_9 rfl (lv_at hl 0 rfl) ?_
  refine lv_iload_n hx hb dX10_stillWorth_10 rfl (lv_at hl 1 rfl) ?_
  refine lv_iconst (v := 0) hx hb dX10_stillWorth_11 (by decide) ?_
  refine lv_iload_n hx hb dX10_stillWorth_12 rfl (lv_at hl 2 rfl) ?_
  refine ti_callv (va_runV (As := [.int x1, .int (0 : Int32), .int x2]) (rest := []) ⟨hx, hb, hml, hown, hts⟩ (t_X10_set l hT ha0 (iv_w hx1 (by decide)) (iv_w (iv_c (x := (0 : Int32)) (k := 0) (by decide)) (by decide)) (iv_w hx2 (by decide)) (fun h9 => by have b0a := (hx1).1; have b0b := (hx1).2; have b1a := (hx2).1; have b1b := (hx2).2; omega) hU) (cwV 3 hts (good_V kw_511 kw_512 kw_513 kw_5 kw_514) rfl rfl rfl (by decide +kernel) ⟨by rw [hR]; decide, by rw [hR]; decide⟩) (ti_preV hK hT ha0 rfl rfl) rfl rfl hl.1 rfl (lv_room (Nat.le_of_ble_eq_true rfl)) dX10_stillWorth_13 ⟨Nat.zero_le _, Nat.zero_le _⟩) hS (pW_sub rfl) (fun H locs hB hS _ hk13 => ?_)
  obtain ⟨hT, hp13⟩ := hB
  refine lv_aload_n hx hb dX10_stillWorth_16 rfl (lv_at hl 0 rfl) ?_
  refine lv_iload_n hx hb dX10_stillWorth_17 rfl (lv_at hl 1 rfl) ?_
  refine lv_iconst (v := 1) hx hb dX10_stillWorth_18 (by decide) ?_
  refine lv_iload_n hx hb dX10_stillWorth_19 rfl (lv_at hl 3 rfl) ?_
  refine ti_callv (va_runV (As := [.int x1, .int (1 : Int32), .int x3]) (rest := []) ⟨hx, hb, hml, hown, hts⟩ (t_X10_set l hT ha0 (iv_w hx1 (by decide)) (iv_w (iv_c (x := (1 : Int32)) (k := 1) (by decide)) (by decide)) (iv_w hx3 (by decide)) (fun h9 => absurd h9 (by decide)) hU) (cwV 3 hts (good_V kw_511 kw_512 kw_513 kw_5 kw_514) rfl rfl rfl (by decide +kernel) ⟨by rw [hR]; decide, by rw [hR]; decide⟩) (ti_preV hK hT ha0 rfl rfl) rfl rfl hl.1 rfl (lv_room (Nat.le_of_ble_eq_true rfl)) dX10_stillWorth_20 ⟨Nat.zero_le _, Nat.zero_le _⟩) hS (pW_sub rfl) (fun H locs hB hS _ hk20 => ?_)
  obtain ⟨hT, hp20⟩ := hB
  refine lv_aload_n hx hb dX10_stillWorth_23 rfl (lv_at hl 0 rfl) ?_
  refine lv_iload_n hx hb dX10_stillWorth_24 rfl (lv_at hl 1 rfl) ?_
  refine lv_iconst (v := 0) hx hb dX10_stillWorth_25 (by decide) ?_
  refine lv_iconst (v := 0) hx hb dX10_stillWorth_26 (by decide) ?_
  refine lv_iconst (v := 0) hx hb dX10_stillWorth_27 (by decide) ?_
  refine lv_iconst (v := (-1)) hx hb dX10_stillWorth_28 (by decide) ?_
  have kl0 : (0 : Int32).toInt = 0 := by decide
  have klm1 : (-1 : Int32).toInt = (-1) := by decide
  refine ti_calli (va_runV (As := [.int x1, .int (0 : Int32), .int (0 : Int32), .int (0 : Int32), .int (-1 : Int32)]) (rest := []) ⟨hx, hb, hml, hown, hts⟩ (t_X10_valueOf l hT ha0 (iv_w hx1 (by decide)) (iv_w (iv_c (x := (0 : Int32)) (k := 0) (by decide)) (by decide)) (iv_w (iv_c (x := (0 : Int32)) (k := 0) (by decide)) (by decide)) (iv_w (iv_c (x := (0 : Int32)) (k := 0) (by decide)) (by decide)) (iv_w (iv_c (x := (-1 : Int32)) (k := (-1)) (by decide)) (by decide)) (fun h9 => by omega) hU) (cwV 5 hts (good_V kw_965 kw_966 kw_967 kw_5 kw_968) rfl rfl rfl (by decide +kernel) ⟨by rw [hR]; decide, by rw [hR]; decide⟩) (ti_preV hK hT ha0 rfl rfl) rfl rfl hl.1 rfl (lv_room (Nat.le_of_ble_eq_true rfl)) dX10_stillWorth_29 ⟨Nat.zero_le _, Nat.zero_le _⟩) hS (pW_sub rfl) (fun v29 H locs hB hS _ hk29 => ?_)
  have hT := hB
  refine lv_istore (lv' := [(4, .int v29), (0, .ref a0), (1, .int x1), (2, .int x2), (3, .int x3)]) hx hb dX10_stillWorth_32 hl (by decide) rfl (fun ls hl => ?_)
  refine lv_aload_n hx hb dX10_stillWorth_34 rfl (lv_at hl 1 rfl) ?_
  refine ti_callv (va_runV (As := []) (rest := []) ⟨hx, hb, hml, hown, hts⟩ (t_X10_wakes_e l hT ha0 rfl rfl hU) (cwV 0 hts (good_V kw_824 kw_825 kw_826 kw_5 kw_827) rfl rfl rfl (by decide +kernel) ⟨by rw [hR]; decide, by rw [hR]; decide⟩) (ti_preV hK hT ha0 rfl rfl) rfl rfl hl.1 rfl (lv_room (Nat.le_of_ble_eq_true rfl)) dX10_stillWorth_35 ⟨Nat.zero_le _, Nat.zero_le _⟩) hS (pW_sub rfl) (fun H locs hB hS _ hk35 => ?_)
  obtain ⟨hT, hp35⟩ := hB
  rw [nu_back hν3 hν5] at hT
  refine lv_iload hx hb dX10_stillWorth_38 (lv_at hl 0 rfl) ?_
  exact ret _ _ _ _ _ dX10_stillWorth_40 (⟨hT, (fun w hw j v hj h9 => by
      obtain ⟨q, hq⟩ := model_kept hT ha0
      rw [← hHs] at h9
      have g1 := (h9.call hk2 (pW_not hw rfl)).call hk6 (pW_not hw rfl)
      obtain ⟨v1, a1, a2⟩ := hp6 q hq w hw j hj
      cases am_inj a2 g1
      have g2 := (((a1.call hk13 (pW_not hq rfl)).call hk20 (pW_not hq rfl)).call hk29 (pW_not hq rfl)).call hk35 (pW_not hq rfl)
      obtain ⟨v2, b1, b2⟩ := hp35 q hq w hw j hj
      cases am_inj b2 g2
      exact b1)⟩) hS
set_option maxHeartbeats 4000000 in
set_option maxRecDepth 100000 in
theorem t_X10_hidingWorth (l : Launch) {D : va_G} {c0 : Nat → ClassId} {Y : Nat → Option Nat} {ν : Nat → Nat} {H : Heap} (hT : TI D vwCl (tysOf c0) (RTg ν) Y H) {a0 : Nat} (ha0 : Y a0 = some 10) {x1 : Int32} (hx1 : iv x1 0 7) {x2 : Int32} (hx2 : iv x2 0 100000) {x3 : Int32} (hx3 : iv x3 (-2147483648) 2147483647) {k9 : Int32} (hw9 : ∀ w, Y w = some 30 → am w (16 + 10 * x1.toNatClampNeg) (.int k9) H) (hn9 : 0 ≤ x2.toInt ∧ x2.toInt ≤ k9.toInt) (hν3 : ν 3 = 0) (hν5 : ν 5 = 0) (hU : uq Y) : Met l yX10_hidingWorth (wz yX10_hidingWorth cX10_hidingWorth 4 (some .int)) { frames := 6, cells := 0, slots := 0, locals := 189 } (TP D vwCl (tysOf c0) H [.ref a0, .int x1, .int x2, .int x3]) (TQi (fun x H' => TI D vwCl (tysOf c0) (RTg ν) Y H' ∧ ((∀ w, Y w = some 30 → am w (16 + 10 * x1.toNatClampNeg) (.int k9) H'))) Y [10, 29, 30, 41, 42]) 0 0 (pW Y [10, 29, 30, 41, 42]) := by
  refine Met.ofW (cc := cX10_hidingWorth) (maxL := 4) (ret := (some .int)) (by decide) rfl ?_
  intro p e s m args below meth c s₁ B hml hv
  obtain ⟨rfl, rfl, hK⟩ := hv
  have hx := B.exec
  have hb := B.bytes
  have hr := B.returns
  have hts : ∀ w ∈ wq, w.before _ s = true := fun w h => atoms_spec (ws := wz yX10_hidingWorth cX10_hidingWorth 4 (some .int)) B.pre w (List.mem_cons_of_mem _ h)
  have hown : s.vm.findClass RX10 = some m.cls := findClass_of_methodNamed B.named
  have hlocks := B.notSynchronized
  obtain ⟨R, hR⟩ : ∃ R : Room, R = ({ frames := 6, cells := 0, slots := 0, locals := 189 } : Room) := ⟨_, rfl⟩
  rw [show (headSpec (wz yX10_hidingWorth cX10_hidingWorth 4 (some .int)) { frames := 6, cells := 0, slots := 0, locals := 189 }).room = R from hR.symm]
  refine ti_mi hx hb hr hlocks (fun Q ret => ?_)
  have hl := lv_entry [.ref a0, .int x1, .int x2, .int x3] (n := 4) (Nat.le_of_ble_eq_true rfl)
  rw [lg_entry_eq]
  generalize (lg_sl [.ref a0, .int x1, .int x2, .int x3] ++ List.replicate (4 - (lg_sl [.ref a0, .int x1, .int x2, .int x3]).length) Slot.unset).toArray = ls at hl ⊢
  have hl : lv_has ls 4 [(0, .ref a0), (1, .int x1), (2, .int x2), (3, .int x3)] := hl
  refine ti_gen (P := fun H => TI D vwCl (tysOf c0) (RTg ν) Y H ∧ (∀ w, Y w = some 30 → am w (16 + 10 * x1.toNatClampNeg) (.int k9) H)) (Y := Y) (ws := [10, 29, 30, 41, 42]) ⟨hT, hw9⟩ (fun H locs hT hS => ?_)
  clear hw9
  obtain ⟨hT, hw9⟩ := hT
  refine lv_aload_n hx hb dX10_hidingWorth_0 rfl (lv_at hl 0 rfl) ?_
  refine lv_iload_n hx hb dX10_hidingWorth_1 rfl (lv_at hl 1 rfl) ?_
  refine lv_aload_n hx hb dX10_hidingWorth_2 rfl (lv_at hl 0 rfl) ?_
  refine lv_iload_n hx hb dX10_hidingWorth_3 rfl (lv_at hl 1 rfl) ?_
  refine lv_iconst (v := 0) hx hb dX10_hidingWorth_4 (by decide) ?_
  refine ti_calli (va_runV (As := [.int x1, .int (0 : Int32)]) (rest := [.int x1, .ref a0]) ⟨hx, hb, hml, hown, hts⟩ (t_X10_of l hT ha0 (iv_w hx1 (by decide)) (iv_w (iv_c (x := (0 : Int32)) (k := 0) (by decide)) (by decide)) hU) (cwV 2 hts (good_V kw_490 kw_491 kw_492 kw_5 kw_493) rfl rfl rfl (by decide +kernel) ⟨by rw [hR]; decide, by rw [hR]; decide⟩) (ti_preV hK hT ha0 rfl rfl) rfl rfl hl.1 rfl (lv_room (Nat.le_of_ble_eq_true rfl)) dX10_hidingWorth_5 ⟨Nat.zero_le _, Nat.zero_le _⟩) hS (pW_sub rfl) (fun v5 H1 locs hB hS _ hk5 => ?_)
  obtain ⟨hH, hp5⟩ := hB
  rw [hH] at hS ⊢
  have kl0 : (0 : Int32).toInt = 0 := by decide
  have hf5 : iv v5 (-2147483648) 100000 := by have b0a := ((iv_top v5)).1; have b0b := ((iv_top v5)).2; exact ⟨by omega, by omega⟩
  refine lv_iload_n hx hb dX10_hidingWorth_8 rfl (lv_at hl 2 rfl) ?_
  refine ti_calli (va_runV (As := [.int x1, .int v5, .int x2]) (rest := []) ⟨hx, hb, hml, hown, hts⟩ (t_X10_stillWorth l hT ha0 (iv_w hx1 (by decide)) (iv_w hf5 (by decide)) (iv_w hx2 (by decide)) hν3 hν5 hU) (cwV 3 hts (good_V kw_1353 kw_1354 kw_1355 kw_5 kw_1356) rfl rfl rfl (by decide +kernel) ⟨by rw [hR]; decide, by rw [hR]; decide⟩) (ti_preV hK hT ha0 rfl rfl) rfl rfl hl.1 rfl (lv_room (Nat.le_of_ble_eq_true rfl)) dX10_hidingWorth_9 ⟨Nat.zero_le _, Nat.zero_le _⟩) hS (pW_sub rfl) (fun v9 H locs hB hS _ hk9 => ?_)
  obtain ⟨hT, hp9⟩ := hB
  refine lv_bipush (v := 100) hx hb dX10_hidingWorth_12 (by decide) ?_
  refine lv_iload_n hx hb dX10_hidingWorth_14 rfl (lv_at hl 3 rfl) ?_
  refine lv_isub hx hb dX10_hidingWorth_15 ?_
  refine lv_topi (fun v15 e15 => ?_)
  have hv15 : iv v15 (-2147483648) 2147483647 := iv_top _
  refine lv_imul hx hb dX10_hidingWorth_16 ?_
  refine lv_topi (fun v16 e16 => ?_)
  have hv16 : iv v16 (-2147483648) 2147483647 := iv_top _
  refine lv_aload_n hx hb dX10_hidingWorth_17 rfl (lv_at hl 0 rfl) ?_
  refine lv_iload_n hx hb dX10_hidingWorth_18 rfl (lv_at hl 1 rfl) ?_
  refine lv_aload_n hx hb dX10_hidingWorth_19 rfl (lv_at hl 0 rfl) ?_
  refine lv_iload_n hx hb dX10_hidingWorth_20 rfl (lv_at hl 1 rfl) ?_
  refine lv_iconst (v := 0) hx hb dX10_hidingWorth_21 (by decide) ?_
  refine ti_calli (va_runV (As := [.int x1, .int (0 : Int32)]) (rest := [.int x1, .ref a0, .int v16]) ⟨hx, hb, hml, hown, hts⟩ (t_X10_of l hT ha0 (iv_w hx1 (by decide)) (iv_w (iv_c (x := (0 : Int32)) (k := 0) (by decide)) (by decide)) hU) (cwV 2 hts (good_V kw_490 kw_491 kw_492 kw_5 kw_493) rfl rfl rfl (by decide +kernel) ⟨by rw [hR]; decide, by rw [hR]; decide⟩) (ti_preV hK hT ha0 rfl rfl) rfl rfl hl.1 rfl (lv_room (Nat.le_of_ble_eq_true rfl)) dX10_hidingWorth_22 ⟨Nat.zero_le _, Nat.zero_le _⟩) hS (pW_sub rfl) (fun v22 H1 locs hB hS _ hk22 => ?_)
  obtain ⟨hH, hp22⟩ := hB
  rw [hH] at hS ⊢
  have hf22 : iv v22 (-2147483648) 100000 := by have b0a := ((iv_top v22)).1; have b0b := ((iv_top v22)).2; exact ⟨by omega, by omega⟩
  obtain ⟨w0, hw0⟩ := model_world hT ha0
  have q22 := am_inj (show am w0 (16 + 10 * x1.toNatClampNeg) (.int v22) H from wv_all hU hT ha0 hp22.2 w0 hw0) (hp9 w0 hw0 _ _ (by have b0a := (hx1).1; have b0b := (hx1).2; have b1a := (hx2).1; have b1b := (hx2).2; have b2a := (hx3).1; have b2b := (hx3).2; have b3a := (hf5).1; have b3b := (hf5).2; have b4a := ((iv_top v9)).1; have b4b := ((iv_top v9)).2; have b5a := (hv15).1; have b5b := (hv15).2; have b6a := (hv16).1; have b6b := (hv16).2; have b7a := (hf22).1; have b7b := (hf22).2; show 16 + 10 * x1.toInt.toNat < 178; omega) (hw9 w0 hw0))
  injection q22 with q22
  have q22 := i_eq q22
  have hh25_8 : iv v22 0 100000 := by have b0a := (hx1).1; have b0b := (hx1).2; have b1a := (hx2).1; have b1b := (hx2).2; have b2a := (hx3).1; have b2b := (hx3).2; have b3a := (hf5).1; have b3b := (hf5).2; have b4a := ((iv_top v9)).1; have b4b := ((iv_top v9)).2; have b5a := (hv15).1; have b5b := (hv15).2; have b6a := (hv16).1; have b6b := (hv16).2; have b7a := (hf22).1; have b7b := (hf22).2; exact ⟨by omega, by omega⟩
  refine lv_iload_n hx hb dX10_hidingWorth_25 rfl (lv_at hl 2 rfl) ?_
  refine lv_isub hx hb dX10_hidingWorth_26 ?_
  refine lv_topi (fun v26 e26 => ?_)
  have hv26 : iv v26 (-100000) 100000 := by rw [e26]; exact iv_w (iv_sub hh25_8 hx2 (by decide)) (by decide)
  have s26 : v26.toInt = v22.toInt - x2.toInt := by rw [e26]; exact iv_subE hh25_8 hx2 (by decide)
  refine lv_iconst (v := 0) hx hb dX10_hidingWorth_27 (by decide) ?_
  refine ti_calli (va_runV (As := [.int x1, .int v26, .int (0 : Int32)]) (rest := [.int v16]) ⟨hx, hb, hml, hown, hts⟩ (t_X10_stillWorth l hT ha0 (iv_w hx1 (by decide)) (iv_w hv26 (by decide)) (iv_w (iv_c (x := (0 : Int32)) (k := 0) (by decide)) (by decide)) hν3 hν5 hU) (cwV 3 hts (good_V kw_1353 kw_1354 kw_1355 kw_5 kw_1356) rfl rfl rfl (by decide +kernel) ⟨by rw [hR]; decide, by rw [hR]; decide⟩) (ti_preV hK hT ha0 rfl rfl) rfl rfl hl.1 rfl (lv_room (Nat.le_of_ble_eq_true rfl)) dX10_hidingWorth_28 ⟨Nat.zero_le _, Nat.zero_le _⟩) hS (pW_sub rfl) (fun v28 H locs hB hS _ hk28 => ?_)
  obtain ⟨hT, hp28⟩ := hB
  refine lv_iload_n hx hb dX10_hidingWorth_31 rfl (lv_at hl 3 rfl) ?_
  refine lv_imul hx hb dX10_hidingWorth_32 ?_
  refine lv_topi (fun v32 e32 => ?_)
  have hv32 : iv v32 (-2147483648) 2147483647 := iv_top _
  refine lv_iadd hx hb dX10_hidingWorth_33 ?_
  refine lv_topi (fun v33 e33 => ?_)
  have hv33 : iv v33 (-2147483648) 2147483647 := iv_top _
  refine lv_bipush (v := 100) hx hb dX10_hidingWorth_34 (by decide) ?_
  refine lv_idiv hx hb dX10_hidingWorth_36 (iv_ne0 (iv_c (x := (100 : Int32)) (k := 100) (by decide)) (by decide)) ?_
  refine lv_topi (fun v36 e36 => ?_)
  have hv36 : iv v36 (-2147483648) 2147483647 := by rw [e36]; exact iv_div hv33 (iv_c (x := (100 : Int32)) (k := 100) (by decide)) (by decide)
  exact ret _ _ _ _ _ dX10_hidingWorth_37 (⟨hT, (fun w hw => hp28 w hw _ _ (by have b0a := (hx1).1; have b0b := (hx1).2; have b1a := (hx2).1; have b1b := (hx2).2; have b2a := (hx3).1; have b2b := (hx3).2; have b3a := (hf5).1; have b3b := (hf5).2; have b4a := ((iv_top v9)).1; have b4b := ((iv_top v9)).2; have b5a := (hv15).1; have b5b := (hv15).2; have b6a := (hv16).1; have b6b := (hv16).2; have b7a := (hh25_8).1; have b7b := (hh25_8).2; have b8a := (hv26).1; have b8b := (hv26).2; have b9a := ((iv_top v28)).1; have b9b := ((iv_top v28)).2; have b10a := (hv32).1; have b10b := (hv32).2; have b11a := (hv33).1; have b11b := (hv33).2; have b12a := (hv36).1; have b12b := (hv36).2; show 16 + 10 * x1.toInt.toNat < 178; omega) (hp9 w hw _ _ (by have b0a := (hx1).1; have b0b := (hx1).2; have b1a := (hx2).1; have b1b := (hx2).2; have b2a := (hx3).1; have b2b := (hx3).2; have b3a := (hf5).1; have b3b := (hf5).2; have b4a := ((iv_top v9)).1; have b4b := ((iv_top v9)).2; have b5a := (hv15).1; have b5b := (hv15).2; have b6a := (hv16).1; have b6b := (hv16).2; have b7a := (hh25_8).1; have b7b := (hh25_8).2; have b8a := (hv26).1; have b8b := (hv26).2; have b9a := ((iv_top v28)).1; have b9b := ((iv_top v28)).2; have b10a := (hv32).1; have b10b := (hv32).2; have b11a := (hv33).1; have b11b := (hv33).2; have b12a := (hv36).1; have b12b := (hv36).2; show 16 + 10 * x1.toInt.toNat < 178; omega) (hw9 w hw)))⟩) hS
set_option maxHeartbeats 4000000 in
set_option maxRecDepth 100000 in
theorem t_X10_hides (l : Launch) {D : va_G} {c0 : Nat → ClassId} {Y : Nat → Option Nat} {ν : Nat → Nat} {H : Heap} (hT : TI D vwCl (tysOf c0) (RTg ν) Y H) {a0 : Nat} (ha0 : Y a0 = some 10) {x1 : Int32} (hx1 : iv x1 (-2147483648) 2147483647) {x2 : Int32} (hx2 : iv x2 (-2147483648) 2147483647) (hν3 : ν 3 = 0) (hν5 : ν 5 = 0) (hU : uq Y) : Met l yX10_hides (wz yX10_hides cX10_hides 3 (some .int)) { frames := 7, cells := 0, slots := 0, locals := 212 } (TP D vwCl (tysOf c0) H [.ref a0, .int x1, .int x2]) (TQi (fun x H' => TI D vwCl (tysOf c0) (RTg ν) Y H') Y [10, 29, 30, 41, 42]) 0 0 (pW Y [10, 29, 30, 41, 42]) := by
  refine Met.ofW (cc := cX10_hides) (maxL := 3) (ret := (some .int)) (by decide) rfl ?_
  intro p e s m args below meth c s₁ B hml hv
  obtain ⟨rfl, rfl, hK⟩ := hv
  have hx := B.exec
  have hb := B.bytes
  have hr := B.returns
  have hts : ∀ w ∈ wq, w.before _ s = true := fun w h => atoms_spec (ws := wz yX10_hides cX10_hides 3 (some .int)) B.pre w (List.mem_cons_of_mem _ h)
  have hown : s.vm.findClass RX10 = some m.cls := findClass_of_methodNamed B.named
  have hlocks := B.notSynchronized
  obtain ⟨R, hR⟩ : ∃ R : Room, R = ({ frames := 7, cells := 0, slots := 0, locals := 212 } : Room) := ⟨_, rfl⟩
  rw [show (headSpec (wz yX10_hides cX10_hides 3 (some .int)) { frames := 7, cells := 0, slots := 0, locals := 212 }).room = R from hR.symm]
  refine ti_mi hx hb hr hlocks (fun Q ret => ?_)
  have hl := lv_entry [.ref a0, .int x1, .int x2] (n := 3) (Nat.le_of_ble_eq_true rfl)
  rw [lg_entry_eq]
  generalize (lg_sl [.ref a0, .int x1, .int x2] ++ List.replicate (3 - (lg_sl [.ref a0, .int x1, .int x2]).length) Slot.unset).toArray = ls at hl ⊢
  have hl : lv_has ls 3 [(0, .ref a0), (1, .int x1), (2, .int x2)] := hl
  refine ti_gen (P := fun H => TI D vwCl (tysOf c0) (RTg ν) Y H) (Y := Y) (ws := [10, 29, 30, 41, 42]) hT (fun H locs hT hS => ?_)
  refine lv_aload_n hx hb dX10_hides_0 rfl (lv_at hl 0 rfl) ?_
  refine lv_iload_n hx hb dX10_hides_1 rfl (lv_at hl 1 rfl) ?_
  refine lv_iload_n hx hb dX10_hides_2 rfl (lv_at hl 2 rfl) ?_
  refine ti_calli (va_runV (As := [.int x1, .int x2]) (rest := []) ⟨hx, hb, hml, hown, hts⟩ (t_X10_canHide_e l hT ha0 (iv_w hx1 (by decide)) (iv_w hx2 (by decide)) hU) (cwV 2 hts (good_V kw_1345 kw_1346 kw_1347 kw_5 kw_1348) rfl rfl rfl (by decide +kernel) ⟨by rw [hR]; decide, by rw [hR]; decide⟩) (ti_preV hK hT ha0 rfl rfl) rfl rfl hl.1 rfl (lv_room (Nat.le_of_ble_eq_true rfl)) dX10_hides_3 ⟨Nat.zero_le _, Nat.zero_le _⟩) hS (pW_sub rfl) (fun v3 H1 locs hB hS _ hk3 => ?_)
  obtain ⟨hH, hv3, hp3⟩ := hB
  rw [hH] at hS ⊢
  refine lv_if_eq (tgt := 25) hx hb dX10_hides_6 (by decide) (fun c6 => ?_) (fun c6 => ?_)
  · skip
    have kl0 : (0 : Int32).toInt = 0 := by decide
    have f6 := i_eq c6
    have hv3_6l : iv v3 0 0 := iv_eql hv3 (iv_c (x := (0 : Int32)) (k := 0) (by decide)) c6 (by decide)
    refine lv_ldcw (v := (-2000000000)) hx hb hown (hts _ kw_960) dX10_hides_25 ?_
    exact ret _ _ _ _ _ dX10_hides_28 (hT) hS
  · skip
    have kl0 : (0 : Int32).toInt = 0 := by decide
    have f6 := i_ne c6
    have hv3_6l : iv v3 1 1 := iv_nel hv3 (iv_c (x := (0 : Int32)) (k := 0) (by decide)) c6 (by decide)
    have hx1_6p : iv x1 0 7 := by have b0a := (hx1).1; have b0b := (hx1).2; exact ⟨by omega, by omega⟩
    have hx2_6p : iv x2 0 100000 := by have b0a := (hx2).1; have b0b := (hx2).2; exact ⟨by omega, by omega⟩
    refine lv_aload_n hx hb dX10_hides_9 rfl (lv_at hl 0 rfl) ?_
    refine lv_iload_n hx hb dX10_hides_10 rfl (lv_at hl 1 rfl) ?_
    refine lv_iload_n hx hb dX10_hides_11 rfl (lv_at hl 2 rfl) ?_
    refine lv_aload_n hx hb dX10_hides_12 rfl (lv_at hl 0 rfl) ?_
    refine ti_getr hx hb hts inlX10 hown hK hT ha0 rfl rfl rfl 1 (by decide) (hts _ kw_130) (fun _ h9 => h9) rfl dX10_hides_13 (fun v13 hv13 hm13 => ?_)
    refine lv_bipush (v := 6) hx hb dX10_hides_16 (by decide) ?_
    refine ti_iald (lo := (-2147483648)) (hi := 2147483647) hx hb (aT0 hK) hT hv13 rfl (iv_c (x := (6 : Int32)) (k := 6) (by decide)) (by decide) (one_j 6 rfl rfl (by decide) (by decide)) dX10_hides_18 (fun v18 hv18 hm18 => ?_)
    obtain ⟨-, q2, k9, q3, q4⟩ := hp3.resolve_left (by have b0a := (hx1_6p).1; have b0b := (hx1_6p).2; have b1a := (hx2_6p).1; have b1b := (hx2_6p).2; have b2a := (hv3_6l).1; have b2b := (hv3_6l).2; have b3a := (hv18).1; have b3b := (hv18).2; omega)
    refine ti_calli (va_runV (As := [.int x1, .int x2, .int v18]) (rest := []) ⟨hx, hb, hml, hown, hts⟩ (t_X10_hidingWorth l hT ha0 (iv_w hx1_6p (by decide)) (iv_w hx2_6p (by decide)) (iv_w hv18 (by decide)) (wv_all hU hT ha0 q4) ⟨q2.1, q3⟩ hν3 hν5 hU) (cwV 3 hts (good_V kw_1349 kw_1350 kw_1351 kw_5 kw_1352) rfl rfl rfl (by decide +kernel) ⟨by rw [hR]; decide, by rw [hR]; decide⟩) (ti_preV hK hT ha0 rfl rfl) rfl rfl hl.1 rfl (lv_room (Nat.le_of_ble_eq_true rfl)) dX10_hides_19 ⟨Nat.zero_le _, Nat.zero_le _⟩) hS (pW_sub rfl) (fun v19 H locs hB hS _ hk19 => ?_)
    obtain ⟨hT, hp19⟩ := hB
    refine lv_goto (tgt := 28) hx hb dX10_hides_22 (by decide) ?_
    exact ret _ _ _ _ _ dX10_hides_28 (hT) hS
set_option maxHeartbeats 4000000 in
set_option maxRecDepth 100000 in
theorem t_X10_edge (l : Launch) {D : va_G} {c0 : Nat → ClassId} {Y : Nat → Option Nat} {ν : Nat → Nat} {H : Heap} (hT : TI D vwCl (tysOf c0) (RTg ν) Y H) {a0 : Nat} (ha0 : Y a0 = some 10) {x1 : Int32} (hx1 : iv x1 (-2147483648) 2147483647) {x2 : Int32} (hx2 : iv x2 (-2147483648) 2147483647) (hν3 : ν 3 = 0) (hν5 : ν 5 = 0) (hU : uq Y) : Met l yX10_edge (wz yX10_edge cX10_edge 5 (some .int)) { frames := 7, cells := 0, slots := 0, locals := 212 } (TP D vwCl (tysOf c0) H [.ref a0, .int x1, .int x2]) (TQi (fun x H' => TI D vwCl (tysOf c0) (RTg ν) Y H' ∧ iv x (-2) 100) Y [10, 29, 30, 41, 42]) 0 0 (pW Y [10, 29, 30, 41, 42]) := by
  refine Met.ofW (cc := cX10_edge) (maxL := 5) (ret := (some .int)) (by decide) rfl ?_
  intro p e s m args below meth c s₁ B hml hv
  obtain ⟨rfl, rfl, hK⟩ := hv
  have hx := B.exec
  have hb := B.bytes
  have hr := B.returns
  have hts : ∀ w ∈ wq, w.before _ s = true := fun w h => atoms_spec (ws := wz yX10_edge cX10_edge 5 (some .int)) B.pre w (List.mem_cons_of_mem _ h)
  have hown : s.vm.findClass RX10 = some m.cls := findClass_of_methodNamed B.named
  have hlocks := B.notSynchronized
  obtain ⟨R, hR⟩ : ∃ R : Room, R = ({ frames := 7, cells := 0, slots := 0, locals := 212 } : Room) := ⟨_, rfl⟩
  rw [show (headSpec (wz yX10_edge cX10_edge 5 (some .int)) { frames := 7, cells := 0, slots := 0, locals := 212 }).room = R from hR.symm]
  refine ti_mi hx hb hr hlocks (fun Q ret => ?_)
  have hl := lv_entry [.ref a0, .int x1, .int x2] (n := 5) (Nat.le_of_ble_eq_true rfl)
  rw [lg_entry_eq]
  generalize (lg_sl [.ref a0, .int x1, .int x2] ++ List.replicate (5 - (lg_sl [.ref a0, .int x1, .int x2]).length) Slot.unset).toArray = ls at hl ⊢
  have hl : lv_has ls 5 [(0, .ref a0), (1, .int x1), (2, .int x2)] := hl
  refine ti_gen (P := fun H => TI D vwCl (tysOf c0) (RTg ν) Y H) (Y := Y) (ws := [10, 29, 30, 41, 42]) hT (fun H locs hT hS => ?_)
  refine lv_aload_n hx hb dX10_edge_0 rfl (lv_at hl 0 rfl) ?_
  refine lv_iload_n hx hb dX10_edge_1 rfl (lv_at hl 1 rfl) ?_
  refine lv_iload_n hx hb dX10_edge_2 rfl (lv_at hl 2 rfl) ?_
  refine ti_calli (va_runV (As := [.int x1, .int x2]) (rest := []) ⟨hx, hb, hml, hown, hts⟩ (t_X10_canHide_e l hT ha0 (iv_w hx1 (by decide)) (iv_w hx2 (by decide)) hU) (cwV 2 hts (good_V kw_1345 kw_1346 kw_1347 kw_5 kw_1348) rfl rfl rfl (by decide +kernel) ⟨by rw [hR]; decide, by rw [hR]; decide⟩) (ti_preV hK hT ha0 rfl rfl) rfl rfl hl.1 rfl (lv_room (Nat.le_of_ble_eq_true rfl)) dX10_edge_3 ⟨Nat.zero_le _, Nat.zero_le _⟩) hS (pW_sub rfl) (fun v3 H1 locs hB hS _ hk3 => ?_)
  obtain ⟨hH, hv3, hp3⟩ := hB
  rw [hH] at hS ⊢
  refine lv_if_ne (tgt := 12) hx hb dX10_edge_6 (by decide) (fun c6 => ?_) (fun c6 => ?_)
  · skip
    have kl0 : (0 : Int32).toInt = 0 := by decide
    have f6 := i_ne c6
    have hv3_6l : iv v3 1 1 := iv_nel hv3 (iv_c (x := (0 : Int32)) (k := 0) (by decide)) c6 (by decide)
    have hx1_6p : iv x1 0 7 := by have b0a := (hx1).1; have b0b := (hx1).2; exact ⟨by omega, by omega⟩
    have hx2_6p : iv x2 0 100000 := by have b0a := (hx2).1; have b0b := (hx2).2; exact ⟨by omega, by omega⟩
    obtain ⟨-, q2, k9, q3, q4⟩ := hp3.resolve_left (by have b0a := (hx1_6p).1; have b0b := (hx1_6p).2; have b1a := (hx2_6p).1; have b1b := (hx2_6p).2; have b2a := (hv3_6l).1; have b2b := (hv3_6l).2; omega)
    have hwA := wv_all hU hT ha0 q4
    refine lv_aload_n hx hb dX10_edge_12 rfl (lv_at hl 0 rfl) ?_
    refine lv_iload_n hx hb dX10_edge_13 rfl (lv_at hl 1 rfl) ?_
    refine lv_aload_n hx hb dX10_edge_14 rfl (lv_at hl 0 rfl) ?_
    refine lv_iload_n hx hb dX10_edge_15 rfl (lv_at hl 1 rfl) ?_
    refine lv_iconst (v := 0) hx hb dX10_edge_16 (by decide) ?_
    refine ti_calli (va_runV (As := [.int x1, .int (0 : Int32)]) (rest := [.int x1, .ref a0]) ⟨hx, hb, hml, hown, hts⟩ (t_X10_of l hT ha0 (iv_w hx1_6p (by decide)) (iv_w (iv_c (x := (0 : Int32)) (k := 0) (by decide)) (by decide)) hU) (cwV 2 hts (good_V kw_490 kw_491 kw_492 kw_5 kw_493) rfl rfl rfl (by decide +kernel) ⟨by rw [hR]; decide, by rw [hR]; decide⟩) (ti_preV hK hT ha0 rfl rfl) rfl rfl hl.1 rfl (lv_room (Nat.le_of_ble_eq_true rfl)) dX10_edge_17 ⟨Nat.zero_le _, Nat.zero_le _⟩) hS (pW_sub rfl) (fun v17 H1 locs hB hS _ hk17 => ?_)
    obtain ⟨hH, hp17⟩ := hB
    rw [hH] at hS ⊢
    have hf17 : iv v17 (-2147483648) 100000 := by have b0a := ((iv_top v17)).1; have b0b := ((iv_top v17)).2; exact ⟨by omega, by omega⟩
    refine lv_iconst (v := 0) hx hb dX10_edge_20 (by decide) ?_
    refine ti_calli (va_runV (As := [.int x1, .int v17, .int (0 : Int32)]) (rest := []) ⟨hx, hb, hml, hown, hts⟩ (t_X10_stillWorth l hT ha0 (iv_w hx1_6p (by decide)) (iv_w hf17 (by decide)) (iv_w (iv_c (x := (0 : Int32)) (k := 0) (by decide)) (by decide)) hν3 hν5 hU) (cwV 3 hts (good_V kw_1353 kw_1354 kw_1355 kw_5 kw_1356) rfl rfl rfl (by decide +kernel) ⟨by rw [hR]; decide, by rw [hR]; decide⟩) (ti_preV hK hT ha0 rfl rfl) rfl rfl hl.1 rfl (lv_room (Nat.le_of_ble_eq_true rfl)) dX10_edge_21 ⟨Nat.zero_le _, Nat.zero_le _⟩) hS (pW_sub rfl) (fun v21 H locs hB hS _ hk21 => ?_)
    obtain ⟨hT, hp21⟩ := hB
    refine lv_istore_n (lv' := [(3, .int v21), (0, .ref a0), (1, .int x1), (2, .int x2)]) hx hb dX10_edge_24 rfl hl (by decide) rfl (fun ls hl => ?_)
    refine lv_iconst (v := 0) hx hb dX10_edge_25 (by decide) ?_
    have J28 : ∀ (n : Nat) (j28_L4 : Int32) (H : Heap) (locs : List Loc) (ls : Array Slot), (101 - j28_L4.toInt).toNat < n → iv j28_L4 0 101 → (∀ w, Y w = some 30 → am w (16 + 10 * x1.toNatClampNeg) (.int k9) H) → TI D vwCl (tysOf c0) (RTg ν) Y H → va_S (pW Y [10, 29, 30, 41, 42]) s.heap H locs → lv_has ls 5 [(0, .ref a0), (1, .int x1), (2, .int x2), (3, .int v21), (4, .int j28_L4)] → W p l e R s m ([.ref a0, .int x1, .int x2] : List Value).toArray below meth c H locs 0 0 Q (F0 m 28 ls []) := by
      intro n
      induction n with
      | zero => intro j28_L4 H locs ls hms; exact absurd hms (Nat.not_lt_zero _)
      | succ n ih28 =>
        intro j28_L4 H locs ls hms28 hj28_L4 hX28_0 hT hS hl
        refine lv_iload hx hb dX10_edge_28 (lv_at hl 4 rfl) ?_
        refine lv_bipush (v := 100) hx hb dX10_edge_30 (by decide) ?_
        refine lv_icmp_gt (tgt := 56) hx hb dX10_edge_32 (by decide) (fun c32 => ?_) (fun c32 => ?_)
        · skip
          have kl100 : (100 : Int32).toInt = 100 := by decide
          have f32 := i_lt c32
          have hj28_L4_32r : iv j28_L4 101 101 := iv_ltr (iv_c (x := (100 : Int32)) (k := 100) (by decide)) hj28_L4 c32 (by decide)
          refine lv_iconst (v := (-1)) hx hb dX10_edge_56 (by decide) ?_
          exact ret _ _ _ _ _ dX10_edge_57 (⟨hT, iv_w (iv_c (x := (-1 : Int32)) (k := (-1)) (by decide)) (by decide)⟩) hS
        · skip
          have kl100 : (100 : Int32).toInt = 100 := by decide
          have f32 := i_nlt c32
          have hj28_L4_32l : iv j28_L4 0 100 := iv_lel hj28_L4 (iv_c (x := (100 : Int32)) (k := 100) (by decide)) (Int32.not_lt.mp c32) (by decide)
          refine lv_aload_n hx hb dX10_edge_35 rfl (lv_at hl 0 rfl) ?_
          refine lv_iload_n hx hb dX10_edge_36 rfl (lv_at hl 1 rfl) ?_
          refine lv_iload_n hx hb dX10_edge_37 rfl (lv_at hl 2 rfl) ?_
          refine lv_iload hx hb dX10_edge_38 (lv_at hl 4 rfl) ?_
          refine ti_calli (va_runV (As := [.int x1, .int x2, .int j28_L4]) (rest := []) ⟨hx, hb, hml, hown, hts⟩ (t_X10_hidingWorth l hT ha0 (iv_w hx1_6p (by decide)) (iv_w hx2_6p (by decide)) (iv_w hj28_L4_32l (by decide)) hX28_0 ⟨q2.1, q3⟩ hν3 hν5 hU) (cwV 3 hts (good_V kw_1349 kw_1350 kw_1351 kw_5 kw_1352) rfl rfl rfl (by decide +kernel) ⟨by rw [hR]; decide, by rw [hR]; decide⟩) (ti_preV hK hT ha0 rfl rfl) rfl rfl hl.1 rfl (lv_room (Nat.le_of_ble_eq_true rfl)) dX10_edge_40 ⟨Nat.zero_le _, Nat.zero_le _⟩) hS (pW_sub rfl) (fun v40 H locs hB hS _ hk40 => ?_)
          obtain ⟨hT, hp40⟩ := hB
          refine lv_iload_n hx hb dX10_edge_43 rfl (lv_at hl 3 rfl) ?_
          refine lv_icmp_gt (tgt := 50) hx hb dX10_edge_44 (by decide) (fun c44 => ?_) (fun c44 => ?_)
          · skip
            have f44 := i_lt c44
            have hv21_44l : iv v21 (-2147483648) 2147483646 := iv_ltl (iv_top v21) (iv_top v40) c44 (by decide)
            have hv40_44r : iv v40 (-2147483647) 2147483647 := iv_ltr hv21_44l (iv_top v40) c44 (by decide)
            obtain ⟨v50, e50⟩ : ∃ y : Int32, y = j28_L4 + 1 := ⟨_, rfl⟩
            have hv50 : iv v50 1 101 := by rw [e50]; exact iv_w (iv_add hj28_L4_32l (iv_c (x := (1 : Int32)) (k := 1) (by decide)) (by decide)) (by decide)
            have s50 : v50.toInt = j28_L4.toInt + 1 := by rw [e50, iv_addE hj28_L4_32l (iv_c (x := (1 : Int32)) (k := 1) (by decide)) (by decide)]; rfl
            refine lv_iinc (v := v50) (lv' := [(4, .int v50), (0, .ref a0), (1, .int x1), (2, .int x2), (3, .int v21)]) hx hb dX10_edge_50 hl (k := 4) rfl (by rw [e50]; rfl) (by decide) rfl (fun ls hl => ?_)
            refine lv_goto (tgt := 28) hx hb dX10_edge_53 (by decide) ?_
            exact ih28 v50 _ _ _ (ms_up hms28 (by have := s50; omega) (iv_w (c := 1) (d := 101) hv50 (by decide)).2) (iv_w hv50 (by decide)) (hp40) hT hS (lv_sub hl [1, 2, 3, 4, 0] rfl)
          · skip
            have f44 := i_nlt c44
            refine lv_iload hx hb dX10_edge_47 (lv_at hl 4 rfl) ?_
            exact ret _ _ _ _ _ dX10_edge_49 (⟨hT, iv_w hj28_L4_32l (by decide)⟩) hS
    refine lv_istore (lv' := [(4, .int (0 : Int32)), (3, .int v21), (0, .ref a0), (1, .int x1), (2, .int x2)]) hx hb dX10_edge_26 hl (by decide) rfl (fun ls hl => ?_)
    exact J28 _ (0 : Int32) _ _ _ (Nat.lt_succ_self _) (iv_w (iv_c (x := (0 : Int32)) (k := 0) (by decide)) (by decide)) (fun w hw => hp21 w hw _ _ (by have b0a := (hx1_6p).1; have b0b := (hx1_6p).2; have b1a := (hx2_6p).1; have b1b := (hx2_6p).2; have b2a := (hv3_6l).1; have b2b := (hv3_6l).2; have b3a := (hf17).1; have b3b := (hf17).2; have b4a := ((iv_top v21)).1; have b4b := ((iv_top v21)).2; show 16 + 10 * x1.toInt.toNat < 178; omega) (hwA w hw)) hT hS (lv_sub hl [2, 3, 4, 1, 0] rfl)
  · skip
    have kl0 : (0 : Int32).toInt = 0 := by decide
    have f6 := i_eq c6
    have hv3_6l : iv v3 0 0 := iv_eql hv3 (iv_c (x := (0 : Int32)) (k := 0) (by decide)) c6 (by decide)
    refine lv_bipush (v := (-2)) hx hb dX10_edge_9 (by decide) ?_
    exact ret _ _ _ _ _ dX10_edge_11 (⟨hT, iv_w (iv_c (x := (-2 : Int32)) (k := (-2)) (by decide)) (by decide)⟩) hS
