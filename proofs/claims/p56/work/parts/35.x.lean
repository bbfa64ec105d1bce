set_option maxHeartbeats 4000000 in
set_option maxRecDepth 100000 in
theorem t_X9_isSlot_x (l : Launch) {D : va_G} {c0 : Nat → ClassId} {Y : Nat → Option Nat} {ν : Nat → Nat} {H : Heap} (hT : TI D vwCl (tysOf c0) (RTg ν) Y H) {x0 : Int32} (hx0 : iv x0 (-2147483648) 2147483647) : Met l yX9_isSlot (wz yX9_isSlot cX9_isSlot 1 (some .boolean)) { frames := 0, cells := 0, slots := 0, locals := 0 } (TP D vwCl (tysOf c0) H [.int x0]) (TQi (fun x H' => H' = H ∧ iv x 0 1 ∧ ((((0 ≤ x0.toInt ∧ x0.toInt ≤ 3) ∧ x.toInt = 1) ∨ (¬ (0 ≤ x0.toInt ∧ x0.toInt ≤ 3) ∧ x.toInt = 0)))) Y []) 0 0 (pW Y []) := by
  refine Met.ofW (cc := cX9_isSlot) (maxL := 1) (ret := (some .boolean)) (by decide) rfl ?_
  intro p e s m args below meth c s₁ B hml hv
  obtain ⟨rfl, rfl, hK⟩ := hv
  have hx := B.exec
  have hb := B.bytes
  have hr := B.returns
  have hts : ∀ w ∈ wq, w.before _ s = true := fun w h => atoms_spec (ws := wz yX9_isSlot cX9_isSlot 1 (some .boolean)) B.pre w (List.mem_cons_of_mem _ h)
  have hown : s.vm.findClass RX9 = some m.cls := findClass_of_methodNamed B.named
  have hlocks := B.notSynchronized
  obtain ⟨R, hR⟩ : ∃ R : Room, R = ({ frames := 0, cells := 0, slots := 0, locals := 0 } : Room) := ⟨_, rfl⟩
  rw [show (headSpec (wz yX9_isSlot cX9_isSlot 1 (some .boolean)) { frames := 0, cells := 0, slots := 0, locals := 0 }).room = R from hR.symm]
  refine ti_mz hx hb hr hlocks (fun Q ret => ?_)
  have hl := lv_entry [.int x0] (n := 1) (Nat.le_of_ble_eq_true rfl)
  rw [lg_entry_eq]
  generalize (lg_sl [.int x0] ++ List.replicate (1 - (lg_sl [.int x0]).length) Slot.unset).toArray = ls at hl ⊢
  have hl : lv_has ls 1 [(0, .int x0)] := hl
  have hS : va_S (pW Y []) s.heap s.heap [] := va_S.rf
  refine lv_iload_n hx hb dX9_isSlot_0 rfl (lv_at hl 0 rfl) ?_
  refine lv_if_lt (tgt := 13) hx hb dX9_isSlot_1 (by decide) (fun c1 => ?_) (fun c1 => ?_)
  · skip
    have kl0 : (0 : Int32).toInt = 0 := by decide
    have f1 := i_lt c1
    have hx0_1l : iv x0 (-2147483648) (-1) := iv_ltl hx0 (iv_c (x := (0 : Int32)) (k := 0) (by decide)) c1 (by decide)
    refine lv_iconst (v := 0) hx hb dX9_isSlot_13 (by decide) ?_
    exact ret _ _ _ _ _ dX9_isSlot_14 (iv_w (iv_c (x := (0 : Int32)) (k := 0) (by decide)) (by decide)) (⟨rfl, iv_w (iv_c (x := (0 : Int32)) (k := 0) (by decide)) (by decide), by have b0a := (hx0_1l).1; have b0b := (hx0_1l).2; omega⟩) hS
  · skip
    have kl0 : (0 : Int32).toInt = 0 := by decide
    have f1 := i_nlt c1
    have hx0_1r : iv x0 0 2147483647 := iv_ler (iv_c (x := (0 : Int32)) (k := 0) (by decide)) hx0 (Int32.not_lt.mp c1) (by decide)
    refine lv_iload_n hx hb dX9_isSlot_4 rfl (lv_at hl 0 rfl) ?_
    refine lv_iconst (v := 4) hx hb dX9_isSlot_5 (by decide) ?_
    refine lv_icmp_ge (tgt := 13) hx hb dX9_isSlot_6 (by decide) (fun c6 => ?_) (fun c6 => ?_)
    · skip
      have kl4 : (4 : Int32).toInt = 4 := by decide
      have f6 := i_le c6
      have hx0_6r : iv x0 4 2147483647 := iv_ler (iv_c (x := (4 : Int32)) (k := 4) (by decide)) hx0_1r c6 (by decide)
      refine lv_iconst (v := 0) hx hb dX9_isSlot_13 (by decide) ?_
      exact ret _ _ _ _ _ dX9_isSlot_14 (iv_w (iv_c (x := (0 : Int32)) (k := 0) (by decide)) (by decide)) (⟨rfl, iv_w (iv_c (x := (0 : Int32)) (k := 0) (by decide)) (by decide), by have b0a := (hx0_6r).1; have b0b := (hx0_6r).2; omega⟩) hS
    · skip
      have kl4 : (4 : Int32).toInt = 4 := by decide
      have f6 := i_nle c6
      have hx0_6l : iv x0 0 3 := iv_ltl hx0_1r (iv_c (x := (4 : Int32)) (k := 4) (by decide)) (Int32.not_le.mp c6) (by decide)
      refine lv_iconst (v := 1) hx hb dX9_isSlot_9 (by decide) ?_
      refine lv_goto (tgt := 14) hx hb dX9_isSlot_10 (by decide) ?_
      have kl1 : (1 : Int32).toInt = 1 := by decide
      exact ret _ _ _ _ _ dX9_isSlot_14 (iv_w (iv_c (x := (1 : Int32)) (k := 1) (by decide)) (by decide)) (⟨rfl, iv_w (iv_c (x := (1 : Int32)) (k := 1) (by decide)) (by decide), by have b0a := (hx0_6l).1; have b0b := (hx0_6l).2; omega⟩) hS
set_option maxHeartbeats 4000000 in
set_option maxRecDepth 100000 in
theorem t_X5_begin_x (l : Launch) {D : va_G} {c0 : Nat → ClassId} {Y : Nat → Option Nat} {ν : Nat → Nat} {H : Heap} (hT : TI D vwCl (tysOf c0) (RTg ν) Y H) {a0 : Nat} (ha0 : Y a0 = some 5) {x1 : Int32} (hx1 : iv x1 0 3) {x2 : Int32} (hx2 : iv x2 0 60) : Met l yX5_begin (wz yX5_begin cX5_begin 4 none) { frames := 0, cells := 0, slots := 0, locals := 0 } (TP D vwCl (tysOf c0) H [.ref a0, .int x1, .int x2]) (TQv (fun H' => TI D vwCl (tysOf c0) (RTg ν) Y H' ∧ (fi D vwCl a0 5 0 (.int 1) H' ∧ fi D vwCl a0 5 1 (.int x1) H' ∧ fi D vwCl a0 5 2 (.int x2) H' ∧ ∀ b : Nat, Y b = some 5 → b ≠ a0 → H'[b]? = H[b]?)) Y [5, 27]) 0 0 (pW Y [5, 27]) := by
  refine Met.ofW (cc := cX5_begin) (maxL := 4) (ret := none) (by decide) rfl ?_
  intro p e s m args below meth c s₁ B hml hv
  obtain ⟨rfl, rfl, hK⟩ := hv
  have hx := B.exec
  have hb := B.bytes
  have hr := B.returns
  have hts : ∀ w ∈ wq, w.before _ s = true := fun w h => atoms_spec (ws := wz yX5_begin cX5_begin 4 none) B.pre w (List.mem_cons_of_mem _ h)
  have hown : s.vm.findClass RX5 = some m.cls := findClass_of_methodNamed B.named
  have hlocks := B.notSynchronized
  obtain ⟨R, hR⟩ : ∃ R : Room, R = ({ frames := 0, cells := 0, slots := 0, locals := 0 } : Room) := ⟨_, rfl⟩
  rw [show (headSpec (wz yX5_begin cX5_begin 4 none) { frames := 0, cells := 0, slots := 0, locals := 0 }).room = R from hR.symm]
  refine ti_mv hx hb hr hlocks (fun Q ret => ?_)
  have hl := lv_entry [.ref a0, .int x1, .int x2] (n := 4) (Nat.le_of_ble_eq_true rfl)
  rw [lg_entry_eq]
  generalize (lg_sl [.ref a0, .int x1, .int x2] ++ List.replicate (4 - (lg_sl [.ref a0, .int x1, .int x2]).length) Slot.unset).toArray = ls at hl ⊢
  have hl : lv_has ls 4 [(0, .ref a0), (1, .int x1), (2, .int x2)] := hl
  refine ti_gen (P := fun H => TI D vwCl (tysOf c0) (RTg ν) Y H ∧ (H = s.heap)) (Y := Y) (ws := [5, 27]) ⟨hT, rfl⟩ (fun H locs hT hS => ?_)
  obtain ⟨hT, hHs⟩ := hT
  refine lv_aload_n hx hb dX5_begin_0 rfl (lv_at hl 0 rfl) ?_
  refine lv_iconst (v := 1) hx hb dX5_begin_1 (by decide) ?_
  refine ti_put (ty := .boolean) hx hb hts inlX5 tyX5 tyX5_ok nmX5 hown hK hT hS ha0 rfl rfl rfl rfl 0 (by decide) (hts _ kw_1540) (fun _ h9 => h9) rfl rfl (by decide +kernel) (ti_nz (iv_w (iv_c (x := (1 : Int32)) (k := 1) (by decide)) (by decide))).1 (ti_nz (iv_w (iv_c (x := (1 : Int32)) (k := 1) (by decide)) (by decide))).2 ⟨(1 : Int32), rfl, iv_w (iv_c (x := (1 : Int32)) (k := 1) (by decide)) (by decide)⟩ (fun _ _ => trivial) dX5_begin_2 (fun H locs hT hS oq2 he2 hk2 => ?_)
  refine lv_aload_n hx hb dX5_begin_5 rfl (lv_at hl 0 rfl) ?_
  refine lv_iload_n hx hb dX5_begin_6 rfl (lv_at hl 1 rfl) ?_
  refine ti_put (ty := .int) hx hb hts inlX5 tyX5 tyX5_ok nmX5 hown hK hT hS ha0 rfl rfl rfl rfl 1 (by decide) (hts _ kw_1541) (fun _ h9 => h9) rfl rfl (by decide +kernel) rfl rfl ⟨x1, rfl, iv_w hx1 (by decide)⟩ (fun _ _ => trivial) dX5_begin_7 (fun H locs hT hS oq7 he7 hk7 => ?_)
  refine lv_aload_n hx hb dX5_begin_10 rfl (lv_at hl 0 rfl) ?_
  refine lv_iload_n hx hb dX5_begin_11 rfl (lv_at hl 2 rfl) ?_
  refine ti_put (ty := .int) hx hb hts inlX5 tyX5 tyX5_ok nmX5 hown hK hT hS ha0 rfl rfl rfl rfl 2 (by decide) (hts _ kw_1542) (fun _ h9 => h9) rfl rfl (by decide +kernel) rfl rfl ⟨x2, rfl, iv_w hx2 (by decide)⟩ (fun _ _ => trivial) dX5_begin_12 (fun H locs hT hS oq12 he12 hk12 => ?_)
  refine lv_iconst (v := 0) hx hb dX5_begin_15 (by decide) ?_
  have J17 : ∀ (n : Nat) (j17_L3 : Int32) (H : Heap) (locs : List Loc) (ls : Array Slot), (60 - j17_L3.toInt).toNat < n → iv j17_L3 0 60 → (fi D vwCl a0 5 0 (.int 1) H ∧ fi D vwCl a0 5 1 (.int x1) H ∧ fi D vwCl a0 5 2 (.int x2) H ∧ ∀ b : Nat, Y b = some 5 → b ≠ a0 → H[b]? = s.heap[b]?) → TI D vwCl (tysOf c0) (RTg ν) Y H → va_S (pW Y [5, 27]) s.heap H locs → lv_has ls 4 [(0, .ref a0), (1, .int x1), (2, .int x2), (3, .int j17_L3)] → W p l e R s m ([.ref a0, .int x1, .int x2] : List Value).toArray below meth c H locs 0 0 Q (F0 m 17 ls []) := by
    intro n
    induction n with
    | zero => intro j17_L3 H locs ls hms; exact absurd hms (Nat.not_lt_zero _)
    | succ n ih17 =>
      intro j17_L3 H locs ls hms17 hj17_L3 hX17_0 hT hS hl
      refine lv_iload_n hx hb dX5_begin_17 rfl (lv_at hl 3 rfl) ?_
      refine lv_bipush (v := 60) hx hb dX5_begin_18 (by decide) ?_
      refine lv_icmp_ge (tgt := 36) hx hb dX5_begin_20 (by decide) (fun c20 => ?_) (fun c20 => ?_)
      · skip
        have kl60 : (60 : Int32).toInt = 60 := by decide
        have f20 := i_le c20
        have hj17_L3_20r : iv j17_L3 60 60 := iv_ler (iv_c (x := (60 : Int32)) (k := 60) (by decide)) hj17_L3 c20 (by decide)
        exact ret _ _ _ _ dX5_begin_36 (⟨hT, hX17_0⟩) hS
      · skip
        have kl60 : (60 : Int32).toInt = 60 := by decide
        have f20 := i_nle c20
        have hj17_L3_20l : iv j17_L3 0 59 := iv_ltl hj17_L3 (iv_c (x := (60 : Int32)) (k := 60) (by decide)) (Int32.not_le.mp c20) (by decide)
        refine lv_aload_n hx hb dX5_begin_23 rfl (lv_at hl 0 rfl) ?_
        refine ti_getr hx hb hts inlX5 hown hK hT ha0 rfl rfl rfl 3 (by decide) (hts _ kw_125) (fun _ h9 => h9) rfl dX5_begin_24 (fun v24 hv24 hm24 => ?_)
        refine lv_iload_n hx hb dX5_begin_27 rfl (lv_at hl 3 rfl) ?_
        refine lv_lconst (v := 0) hx hb dX5_begin_28 (by decide) ?_
        have kj0 : (0 : Int64).toInt = 0 := by decide
        refine ti_last hx hb (aT3 hK) hT hS hv24 rfl rfl hj17_L3_20l (by decide) (fun _ _ _ => rfl)  (fun _ _ => trivial) dX5_begin_29 (fun H locs hT hS oq29 he29 hk29 => ?_)
        obtain ⟨v30, e30⟩ : ∃ y : Int32, y = j17_L3 + 1 := ⟨_, rfl⟩
        have hv30 : iv v30 1 60 := by rw [e30]; exact iv_w (iv_add hj17_L3_20l (iv_c (x := (1 : Int32)) (k := 1) (by decide)) (by decide)) (by decide)
        have s30 : v30.toInt = j17_L3.toInt + 1 := by rw [e30, iv_addE hj17_L3_20l (iv_c (x := (1 : Int32)) (k := 1) (by decide)) (by decide)]; rfl
        refine lv_iinc (v := v30) (lv' := [(3, .int v30), (0, .ref a0), (1, .int x1), (2, .int x2)]) hx hb dX5_begin_30 hl (k := 3) rfl (by rw [e30]; rfl) (by decide) rfl (fun ls hl => ?_)
        refine lv_goto (tgt := 17) hx hb dX5_begin_33 (by decide) ?_
        exact ih17 v30 _ _ _ (ms_up hms17 (by have := s30; omega) (iv_w (c := 1) (d := 60) hv30 (by decide)).2) (iv_w hv30 (by decide)) (⟨hX17_0.1.kept (oq29 _ (ne_r ha0 hv24 rfl)), hX17_0.2.1.kept (oq29 _ (ne_r ha0 hv24 rfl)), hX17_0.2.2.1.kept (oq29 _ (ne_r ha0 hv24 rfl)), fun b hb hne => (oq29 b (ne_r hb hv24 rfl)).trans (hX17_0.2.2.2 b hb hne)⟩) hT hS (lv_sub hl [1, 2, 3, 0] rfl)
  refine lv_istore_n (lv' := [(3, .int (0 : Int32)), (0, .ref a0), (1, .int x1), (2, .int x2)]) hx hb dX5_begin_16 rfl hl (by decide) rfl (fun ls hl => ?_)
  exact J17 _ (0 : Int32) _ _ _ (Nat.lt_succ_self _) (iv_w (iv_c (x := (0 : Int32)) (k := 0) (by decide)) (by decide)) (⟨hk12 0 _ (by decide) (hk7 0 _ (by decide) he2), hk12 1 _ (by decide) he7, he12, fun b hb hne => (oq12 b hne).trans ((oq7 b hne).trans ((oq2 b hne).trans (by rw [hHs])))⟩) hT hS (lv_sub hl [1, 2, 3, 0] rfl)
set_option maxHeartbeats 4000000 in
set_option maxRecDepth 100000 in
theorem t_X9_row_x (l : Launch) {D : va_G} {c0 : Nat → ClassId} {Y : Nat → Option Nat} {ν : Nat → Nat} {H : Heap} (hT : TI D vwCl (tysOf c0) (RTg ν) Y H) {a0 : Nat} (ha0 : Y a0 = some 9) {x1 : Int32} (hx1 : iv x1 (-2147483648) 2147483647) {x2 : Int32} (hx2 : iv x2 (-2147483648) 2147483647) {x3 : Int32} (hx3 : iv x3 (-2147483648) 2147483647) : Met l yX9_row (wz yX9_row cX9_row 4 (some .int)) { frames := 1, cells := 0, slots := 0, locals := 23 } (TP D vwCl (tysOf c0) H [.ref a0, .int x1, .int x2, .int x3]) (TQi (fun x H' => TI D vwCl (tysOf c0) (RTg ν) Y H' ∧ iv x (-3) 0 ∧ (((rowOK x1 x2 x3 ∧ x.toInt = 0 ∧ ∀ sl a : Nat, fi D vwCl a0 9 5 (.ref sl) H → am sl x1.toNatClampNeg (.ref a) H → fi D vwCl a 5 0 (.int 1) H' ∧ fi D vwCl a 5 1 (.int x2) H' ∧ fi D vwCl a 5 2 (.int x3) H' ∧ ∀ b : Nat, Y b = some 5 → b ≠ a → H'[b]? = H[b]?) ∨ (¬ rowOK x1 x2 x3 ∧ ∀ b : Nat, Y b = some 5 → H'[b]? = H[b]?)))) Y [5, 27]) 0 0 (pW Y [5, 27]) := by
  refine Met.ofW (cc := cX9_row) (maxL := 4) (ret := (some .int)) (by decide) rfl ?_
  intro p e s m args below meth c s₁ B hml hv
  obtain ⟨rfl, rfl, hK⟩ := hv
  have hx := B.exec
  have hb := B.bytes
  have hr := B.returns
  have hts : ∀ w ∈ wq, w.before _ s = true := fun w h => atoms_spec (ws := wz yX9_row cX9_row 4 (some .int)) B.pre w (List.mem_cons_of_mem _ h)
  have hown : s.vm.findClass RX9 = some m.cls := findClass_of_methodNamed B.named
  have hlocks := B.notSynchronized
  obtain ⟨R, hR⟩ : ∃ R : Room, R = ({ frames := 1, cells := 0, slots := 0, locals := 23 } : Room) := ⟨_, rfl⟩
  rw [show (headSpec (wz yX9_row cX9_row 4 (some .int)) { frames := 1, cells := 0, slots := 0, locals := 23 }).room = R from hR.symm]
  refine ti_mi hx hb hr hlocks (fun Q ret => ?_)
  have hl := lv_entry [.ref a0, .int x1, .int x2, .int x3] (n := 4) (Nat.le_of_ble_eq_true rfl)
  rw [lg_entry_eq]
  generalize (lg_sl [.ref a0, .int x1, .int x2, .int x3] ++ List.replicate (4 - (lg_sl [.ref a0, .int x1, .int x2, .int x3]).length) Slot.unset).toArray = ls at hl ⊢
  have hl : lv_has ls 4 [(0, .ref a0), (1, .int x1), (2, .int x2), (3, .int x3)] := hl
  refine ti_gen (P := fun H => TI D vwCl (tysOf c0) (RTg ν) Y H ∧ (H = s.heap)) (Y := Y) (ws := [5, 27]) ⟨hT, rfl⟩ (fun H locs hT hS => ?_)
  obtain ⟨hT, hHs⟩ := hT
  refine lv_iload_n hx hb dX9_row_0 rfl (lv_at hl 1 rfl) ?_
  refine ti_calli (va_runS (As := [.int x1]) (rest := []) ⟨hx, hb, hml, hown, hts⟩ (t_X9_isSlot_x l hT (iv_w hx1 (by decide))) (cwS 1 hts (good_S kw_1533 kw_1534 kw_2 kw_1535) rfl rfl rfl (by decide +kernel) ⟨by rw [hR]; decide, by rw [hR]; decide⟩) (ti_preS hK) rfl rfl hl.1 rfl (lv_room (Nat.le_of_ble_eq_true rfl)) dX9_row_1 ⟨Nat.zero_le _, Nat.zero_le _⟩) hS (pW_sub rfl) (fun v1 H1 locs hB hS _ hk1 => ?_)
  obtain ⟨hH, hv1, hp1⟩ := hB
  rw [hH] at hS ⊢
  refine lv_if_eq (tgt := 22) hx hb dX9_row_4 (by decide) (fun c4 => ?_) (fun c4 => ?_)
  · skip
    have kl0 : (0 : Int32).toInt = 0 := by decide
    have f4 := i_eq c4
    have hv1_4l : iv v1 0 0 := iv_eql hv1 (iv_c (x := (0 : Int32)) (k := 0) (by decide)) c4 (by decide)
    refine lv_bipush (v := (-2)) hx hb dX9_row_22 (by decide) ?_
    have klm2 : (-2 : Int32).toInt = (-2) := by decide
    exact ret _ _ _ _ _ dX9_row_24 (⟨hT, iv_w (iv_c (x := (-2 : Int32)) (k := (-2)) (by decide)) (by decide), Or.inr ⟨(fun q9 => by obtain ⟨⟨q1, q2⟩, ⟨q3, q4⟩, q5, q6⟩ := q9; have b0a := (hx1).1; have b0b := (hx1).2; have b1a := (hx2).1; have b1b := (hx2).2; have b2a := (hx3).1; have b2b := (hx3).2; have b3a := (hv1_4l).1; have b3b := (hv1_4l).2; omega), fun b hb => by rw [hHs]⟩⟩) hS
  · skip
    have kl0 : (0 : Int32).toInt = 0 := by decide
    have f4 := i_ne c4
    have hv1_4l : iv v1 1 1 := iv_nel hv1 (iv_c (x := (0 : Int32)) (k := 0) (by decide)) c4 (by decide)
    have hx1_4p : iv x1 0 3 := by have b0a := (hx1).1; have b0b := (hx1).2; exact ⟨by omega, by omega⟩
    refine lv_iload_n hx hb dX9_row_7 rfl (lv_at hl 2 rfl) ?_
    refine lv_if_lt (tgt := 22) hx hb dX9_row_8 (by decide) (fun c8 => ?_) (fun c8 => ?_)
    · skip
      have f8 := i_lt c8
      have hx2_8l : iv x2 (-2147483648) (-1) := iv_ltl hx2 (iv_c (x := (0 : Int32)) (k := 0) (by decide)) c8 (by decide)
      refine lv_bipush (v := (-2)) hx hb dX9_row_22 (by decide) ?_
      have klm2 : (-2 : Int32).toInt = (-2) := by decide
      exact ret _ _ _ _ _ dX9_row_24 (⟨hT, iv_w (iv_c (x := (-2 : Int32)) (k := (-2)) (by decide)) (by decide), Or.inr ⟨(fun q9 => by obtain ⟨⟨q1, q2⟩, ⟨q3, q4⟩, q5, q6⟩ := q9; have b0a := (hx1_4p).1; have b0b := (hx1_4p).2; have b1a := (hx2_8l).1; have b1b := (hx2_8l).2; have b2a := (hx3).1; have b2b := (hx3).2; have b3a := (hv1_4l).1; have b3b := (hv1_4l).2; omega), fun b hb => by rw [hHs]⟩⟩) hS
    · skip
      have f8 := i_nlt c8
      have hx2_8r : iv x2 0 2147483647 := iv_ler (iv_c (x := (0 : Int32)) (k := 0) (by decide)) hx2 (Int32.not_lt.mp c8) (by decide)
      refine lv_iload_n hx hb dX9_row_11 rfl (lv_at hl 2 rfl) ?_
      refine lv_iconst (v := 4) hx hb dX9_row_12 (by decide) ?_
      refine lv_icmp_ge (tgt := 22) hx hb dX9_row_13 (by decide) (fun c13 => ?_) (fun c13 => ?_)
      · skip
        have kl4 : (4 : Int32).toInt = 4 := by decide
        have f13 := i_le c13
        have hx2_13r : iv x2 4 2147483647 := iv_ler (iv_c (x := (4 : Int32)) (k := 4) (by decide)) hx2_8r c13 (by decide)
        refine lv_bipush (v := (-2)) hx hb dX9_row_22 (by decide) ?_
        have klm2 : (-2 : Int32).toInt = (-2) := by decide
        exact ret _ _ _ _ _ dX9_row_24 (⟨hT, iv_w (iv_c (x := (-2 : Int32)) (k := (-2)) (by decide)) (by decide), Or.inr ⟨(fun q9 => by obtain ⟨⟨q1, q2⟩, ⟨q3, q4⟩, q5, q6⟩ := q9; have b0a := (hx1_4p).1; have b0b := (hx1_4p).2; have b1a := (hx2_13r).1; have b1b := (hx2_13r).2; have b2a := (hx3).1; have b2b := (hx3).2; have b3a := (hv1_4l).1; have b3b := (hv1_4l).2; omega), fun b hb => by rw [hHs]⟩⟩) hS
      · skip
        have kl4 : (4 : Int32).toInt = 4 := by decide
        have f13 := i_nle c13
        have hx2_13l : iv x2 0 3 := iv_ltl hx2_8r (iv_c (x := (4 : Int32)) (k := 4) (by decide)) (Int32.not_le.mp c13) (by decide)
        refine lv_iload_n hx hb dX9_row_16 rfl (lv_at hl 3 rfl) ?_
        refine lv_bipush (v := 60) hx hb dX9_row_17 (by decide) ?_
        refine lv_icmp_le (tgt := 25) hx hb dX9_row_19 (by decide) (fun c19 => ?_) (fun c19 => ?_)
        · skip
          have kl60 : (60 : Int32).toInt = 60 := by decide
          have f19 := i_le c19
          have hx3_19l : iv x3 (-2147483648) 60 := iv_lel hx3 (iv_c (x := (60 : Int32)) (k := 60) (by decide)) c19 (by decide)
          refine lv_iload_n hx hb dX9_row_25 rfl (lv_at hl 3 rfl) ?_
          refine lv_if_ge (tgt := 32) hx hb dX9_row_26 (by decide) (fun c26 => ?_) (fun c26 => ?_)
          · skip
            have f26 := i_le c26
            have hx3_26r : iv x3 0 60 := iv_ler (iv_c (x := (0 : Int32)) (k := 0) (by decide)) hx3_19l c26 (by decide)
            refine lv_aload_n hx hb dX9_row_32 rfl (lv_at hl 0 rfl) ?_
            refine ti_getr hx hb hts inlX9 hown hK hT ha0 rfl rfl rfl 5 (by decide) (hts _ kw_26) (fun _ h9 => h9) rfl dX9_row_33 (fun v33 hv33 hm33 => ?_)
            refine lv_iload_n hx hb dX9_row_36 rfl (lv_at hl 1 rfl) ?_
            refine ti_aaldM hx hb (aT5 hK) hT hv33 rfl hx1_4p (by decide) (fun _ _ _ => rfl) dX9_row_37 (fun v37 hv37 hma37 => ?_)
            have hrd : fi D vwCl a0 9 5 (.ref v33) s.heap ∧ am v33 x1.toNatClampNeg (.ref v37) s.heap := by rw [← hHs]; exact ⟨hm33, hma37⟩
            refine lv_iload_n hx hb dX9_row_38 rfl (lv_at hl 2 rfl) ?_
            refine lv_iload_n hx hb dX9_row_39 rfl (lv_at hl 3 rfl) ?_
            refine ti_callv (va_runV (As := [.int x2, .int x3]) (rest := []) ⟨hx, hb, hml, hown, hts⟩ (t_X5_begin_x l hT hv37 (iv_w hx2_13l (by decide)) (iv_w hx3_26r (by decide))) (cwV 2 hts (good_V kw_1536 kw_1537 kw_1538 kw_43 kw_1539) rfl rfl rfl (by decide +kernel) ⟨by rw [hR]; decide, by rw [hR]; decide⟩) (ti_preV hK hT hv37 rfl rfl) rfl rfl hl.1 rfl (lv_room (Nat.le_of_ble_eq_true rfl)) dX9_row_40 ⟨Nat.zero_le _, Nat.zero_le _⟩) hS (pW_sub rfl) (fun H locs hB hS _ hk40 => ?_)
            obtain ⟨hT, hp40⟩ := hB
            refine lv_iconst (v := 0) hx hb dX9_row_43 (by decide) ?_
            exact ret _ _ _ _ _ dX9_row_44 (⟨hT, iv_w (iv_c (x := (0 : Int32)) (k := 0) (by decide)) (by decide), Or.inl ⟨⟨⟨by have b0a := (hx1_4p).1; have b0b := (hx1_4p).2; have b1a := (hx2_13l).1; have b1b := (hx2_13l).2; have b2a := (hx3_26r).1; have b2b := (hx3_26r).2; have b3a := (hv1_4l).1; have b3b := (hv1_4l).2; omega, by have b0a := (hx1_4p).1; have b0b := (hx1_4p).2; have b1a := (hx2_13l).1; have b1b := (hx2_13l).2; have b2a := (hx3_26r).1; have b2b := (hx3_26r).2; have b3a := (hv1_4l).1; have b3b := (hv1_4l).2; omega⟩, ⟨by have b0a := (hx1_4p).1; have b0b := (hx1_4p).2; have b1a := (hx2_13l).1; have b1b := (hx2_13l).2; have b2a := (hx3_26r).1; have b2b := (hx3_26r).2; have b3a := (hv1_4l).1; have b3b := (hv1_4l).2; omega, by have b0a := (hx1_4p).1; have b0b := (hx1_4p).2; have b1a := (hx2_13l).1; have b1b := (hx2_13l).2; have b2a := (hx3_26r).1; have b2b := (hx3_26r).2; have b3a := (hv1_4l).1; have b3b := (hv1_4l).2; omega⟩, by have b0a := (hx1_4p).1; have b0b := (hx1_4p).2; have b1a := (hx2_13l).1; have b1b := (hx2_13l).2; have b2a := (hx3_26r).1; have b2b := (hx3_26r).2; have b3a := (hv1_4l).1; have b3b := (hv1_4l).2; omega, by have b0a := (hx1_4p).1; have b0b := (hx1_4p).2; have b1a := (hx2_13l).1; have b1b := (hx2_13l).2; have b2a := (hx3_26r).1; have b2b := (hx3_26r).2; have b3a := (hv1_4l).1; have b3b := (hv1_4l).2; omega⟩, by decide, fun sl a h8 h9 => by
          have e8 := fi_inj hrd.1 h8 (q := (RX9, TX9, 11)) rfl (by decide)
          cases e8
          have e9 := am_inj hrd.2 h9
          cases e9
          obtain ⟨g0, g1, g2, g3⟩ := hp40
          exact ⟨g0, g1, g2, fun b hb hne => by rw [← hHs]; exact g3 b hb hne⟩⟩⟩) hS
          · skip
            have f26 := i_nle c26
            have hx3_26l : iv x3 (-2147483648) (-1) := iv_ltl hx3_19l (iv_c (x := (0 : Int32)) (k := 0) (by decide)) (Int32.not_le.mp c26) (by decide)
            refine lv_bipush (v := (-3)) hx hb dX9_row_29 (by decide) ?_
            have klm3 : (-3 : Int32).toInt = (-3) := by decide
            exact ret _ _ _ _ _ dX9_row_31 (⟨hT, iv_w (iv_c (x := (-3 : Int32)) (k := (-3)) (by decide)) (by decide), Or.inr ⟨(fun q9 => by obtain ⟨⟨q1, q2⟩, ⟨q3, q4⟩, q5, q6⟩ := q9; have b0a := (hx1_4p).1; have b0b := (hx1_4p).2; have b1a := (hx2_13l).1; have b1b := (hx2_13l).2; have b2a := (hx3_26l).1; have b2b := (hx3_26l).2; have b3a := (hv1_4l).1; have b3b := (hv1_4l).2; omega), fun b hb => by rw [hHs]⟩⟩) hS
        · skip
          have kl60 : (60 : Int32).toInt = 60 := by decide
          have f19 := i_nle c19
          have hx3_19r : iv x3 61 2147483647 := iv_ltr (iv_c (x := (60 : Int32)) (k := 60) (by decide)) hx3 (Int32.not_le.mp c19) (by decide)
          refine lv_bipush (v := (-2)) hx hb dX9_row_22 (by decide) ?_
          have klm2 : (-2 : Int32).toInt = (-2) := by decide
          exact ret _ _ _ _ _ dX9_row_24 (⟨hT, iv_w (iv_c (x := (-2 : Int32)) (k := (-2)) (by decide)) (by decide), Or.inr ⟨(fun q9 => by obtain ⟨⟨q1, q2⟩, ⟨q3, q4⟩, q5, q6⟩ := q9; have b0a := (hx1_4p).1; have b0b := (hx1_4p).2; have b1a := (hx2_13l).1; have b1b := (hx2_13l).2; have b2a := (hx3_19r).1; have b2b := (hx3_19r).2; have b3a := (hv1_4l).1; have b3b := (hv1_4l).2; omega), fun b hb => by rw [hHs]⟩⟩) hS
set_option maxHeartbeats 4000000 in
set_option maxRecDepth 100000 in
theorem t_X5_spans_x (l : Launch) {D : va_G} {c0 : Nat → ClassId} {Y : Nat → Option Nat} {ν : Nat → Nat} {H : Heap} (hT : TI D vwCl (tysOf c0) (RTg ν) Y H) {a0 : Nat} (ha0 : Y a0 = some 5) {x1 : Int32} (hx1 : iv x1 (-2147483648) 2147483647) {x2 : Int32} (hx2 : iv x2 (-2147483648) 2147483647) {z : Int32} (hz : fi D vwCl a0 5 2 (.int z) H) : Met l yX5_spans (wz yX5_spans cX5_spans 3 (some .boolean)) { frames := 0, cells := 0, slots := 0, locals := 0 } (TP D vwCl (tysOf c0) H [.ref a0, .int x1, .int x2]) (TQi (fun x H' => H' = H ∧ iv x 0 1 ∧ ((((x.toInt = 0 ∨ 0 ≤ x1.toInt ∧ 0 ≤ x2.toInt ∧ x1.toInt + x2.toInt ≤ 60)) ∧ (((0 ≤ x1.toInt ∧ 0 ≤ x2.toInt ∧ x1.toInt + x2.toInt ≤ z.toInt) ∧ x.toInt = 1) ∨ (¬ (0 ≤ x1.toInt ∧ 0 ≤ x2.toInt ∧ x1.toInt + x2.toInt ≤ z.toInt) ∧ x.toInt = 0))))) Y []) 0 0 (pW Y []) := by
  refine Met.ofW (cc := cX5_spans) (maxL := 3) (ret := (some .boolean)) (by decide) rfl ?_
  intro p e s m args below meth c s₁ B hml hv
  obtain ⟨rfl, rfl, hK⟩ := hv
  have hx := B.exec
  have hb := B.bytes
  have hr := B.returns
  have hts : ∀ w ∈ wq, w.before _ s = true := fun w h => atoms_spec (ws := wz yX5_spans cX5_spans 3 (some .boolean)) B.pre w (List.mem_cons_of_mem _ h)
  have hown : s.vm.findClass RX5 = some m.cls := findClass_of_methodNamed B.named
  have hlocks := B.notSynchronized
  obtain ⟨R, hR⟩ : ∃ R : Room, R = ({ frames := 0, cells := 0, slots := 0, locals := 0 } : Room) := ⟨_, rfl⟩
  rw [show (headSpec (wz yX5_spans cX5_spans 3 (some .boolean)) { frames := 0, cells := 0, slots := 0, locals := 0 }).room = R from hR.symm]
  refine ti_mz hx hb hr hlocks (fun Q ret => ?_)
  have hl := lv_entry [.ref a0, .int x1, .int x2] (n := 3) (Nat.le_of_ble_eq_true rfl)
  rw [lg_entry_eq]
  generalize (lg_sl [.ref a0, .int x1, .int x2] ++ List.replicate (3 - (lg_sl [.ref a0, .int x1, .int x2]).length) Slot.unset).toArray = ls at hl ⊢
  have hl : lv_has ls 3 [(0, .ref a0), (1, .int x1), (2, .int x2)] := hl
  have hS : va_S (pW Y []) s.heap s.heap [] := va_S.rf
  refine lv_iload_n hx hb dX5_spans_0 rfl (lv_at hl 1 rfl) ?_
  refine lv_if_lt (tgt := 30) hx hb dX5_spans_1 (by decide) (fun c1 => ?_) (fun c1 => ?_)
  · skip
    have kl0 : (0 : Int32).toInt = 0 := by decide
    have f1 := i_lt c1
    have hx1_1l : iv x1 (-2147483648) (-1) := iv_ltl hx1 (iv_c (x := (0 : Int32)) (k := 0) (by decide)) c1 (by decide)
    refine lv_iconst (v := 0) hx hb dX5_spans_30 (by decide) ?_
    exact ret _ _ _ _ _ dX5_spans_31 (iv_w (iv_c (x := (0 : Int32)) (k := 0) (by decide)) (by decide)) (⟨rfl, iv_w (iv_c (x := (0 : Int32)) (k := 0) (by decide)) (by decide), by have b0a := (hx1_1l).1; have b0b := (hx1_1l).2; have b1a := (hx2).1; have b1b := (hx2).2; omega⟩) hS
  · skip
    have kl0 : (0 : Int32).toInt = 0 := by decide
    have f1 := i_nlt c1
    have hx1_1r : iv x1 0 2147483647 := iv_ler (iv_c (x := (0 : Int32)) (k := 0) (by decide)) hx1 (Int32.not_lt.mp c1) (by decide)
    refine lv_iload_n hx hb dX5_spans_4 rfl (lv_at hl 2 rfl) ?_
    refine lv_if_lt (tgt := 30) hx hb dX5_spans_5 (by decide) (fun c5 => ?_) (fun c5 => ?_)
    · skip
      have f5 := i_lt c5
      have hx2_5l : iv x2 (-2147483648) (-1) := iv_ltl hx2 (iv_c (x := (0 : Int32)) (k := 0) (by decide)) c5 (by decide)
      refine lv_iconst (v := 0) hx hb dX5_spans_30 (by decide) ?_
      exact ret _ _ _ _ _ dX5_spans_31 (iv_w (iv_c (x := (0 : Int32)) (k := 0) (by decide)) (by decide)) (⟨rfl, iv_w (iv_c (x := (0 : Int32)) (k := 0) (by decide)) (by decide), by have b0a := (hx1_1r).1; have b0b := (hx1_1r).2; have b1a := (hx2_5l).1; have b1b := (hx2_5l).2; omega⟩) hS
    · skip
      have f5 := i_nlt c5
      have hx2_5r : iv x2 0 2147483647 := iv_ler (iv_c (x := (0 : Int32)) (k := 0) (by decide)) hx2 (Int32.not_lt.mp c5) (by decide)
      refine lv_iload_n hx hb dX5_spans_8 rfl (lv_at hl 2 rfl) ?_
      refine lv_aload_n hx hb dX5_spans_9 rfl (lv_at hl 0 rfl) ?_
      refine ti_geti hx hb hts inlX5 hown hK hT ha0 rfl rfl rfl 2 (by decide) (hts _ kw_1542) (fun _ h9 => h9) rfl dX5_spans_10 (fun v10 hv10 hm10 => ?_)
      have q10 : v10.toInt = z.toInt := by have e9 := fi_inj hm10 hz (q := (RX5, TX5, 4)) rfl (by decide); injection e9 with e9; rw [e9]
      refine lv_icmp_gt (tgt := 30) hx hb dX5_spans_13 (by decide) (fun c13 => ?_) (fun c13 => ?_)
      · skip
        have f13 := i_lt c13
        have hx2_13r : iv x2 1 2147483647 := iv_ltr hv10 hx2_5r c13 (by decide)
        refine lv_iconst (v := 0) hx hb dX5_spans_30 (by decide) ?_
        exact ret _ _ _ _ _ dX5_spans_31 (iv_w (iv_c (x := (0 : Int32)) (k := 0) (by decide)) (by decide)) (⟨rfl, iv_w (iv_c (x := (0 : Int32)) (k := 0) (by decide)) (by decide), by have b0a := (hx1_1r).1; have b0b := (hx1_1r).2; have b1a := (hx2_13r).1; have b1b := (hx2_13r).2; have b2a := (hv10).1; have b2b := (hv10).2; omega⟩) hS
      · skip
        have f13 := i_nlt c13
        have hx2_13l : iv x2 0 60 := iv_lel hx2_5r hv10 (Int32.not_lt.mp c13) (by decide)
        refine lv_iload_n hx hb dX5_spans_16 rfl (lv_at hl 1 rfl) ?_
        refine lv_aload_n hx hb dX5_spans_17 rfl (lv_at hl 0 rfl) ?_
        refine ti_getE (ci := 5) (v := .int v10) hx hb hts inlX5 hown hK hm10 rfl (by decide) (hts _ kw_1542) (fun _ h9 => h9) dX5_spans_18 ?_
        refine lv_iload_n hx hb dX5_spans_21 rfl (lv_at hl 2 rfl) ?_
        refine lv_isub hx hb dX5_spans_22 ?_
        refine lv_topi (fun v22 e22 => ?_)
        have hv22 : iv v22 (-60) 60 := by rw [e22]; exact iv_w (iv_sub hv10 hx2_13l (by decide)) (by decide)
        have s22 : v22.toInt = v10.toInt - x2.toInt := by rw [e22]; exact iv_subE hv10 hx2_13l (by decide)
        refine lv_icmp_gt (tgt := 30) hx hb dX5_spans_23 (by decide) (fun c23 => ?_) (fun c23 => ?_)
        · skip
          have f23 := i_lt c23
          refine lv_iconst (v := 0) hx hb dX5_spans_30 (by decide) ?_
          exact ret _ _ _ _ _ dX5_spans_31 (iv_w (iv_c (x := (0 : Int32)) (k := 0) (by decide)) (by decide)) (⟨rfl, iv_w (iv_c (x := (0 : Int32)) (k := 0) (by decide)) (by decide), by have b0a := (hx1_1r).1; have b0b := (hx1_1r).2; have b1a := (hx2_13l).1; have b1b := (hx2_13l).2; have b2a := (hv10).1; have b2b := (hv10).2; have b3a := (hv22).1; have b3b := (hv22).2; omega⟩) hS
        · skip
          have f23 := i_nlt c23
          have hx1_23l : iv x1 0 60 := iv_lel hx1_1r hv22 (Int32.not_lt.mp c23) (by decide)
          have hv22_23r : iv v22 0 60 := iv_ler hx1_23l hv22 (Int32.not_lt.mp c23) (by decide)
          refine lv_iconst (v := 1) hx hb dX5_spans_26 (by decide) ?_
          refine lv_goto (tgt := 31) hx hb dX5_spans_27 (by decide) ?_
          have kl1 : (1 : Int32).toInt = 1 := by decide
          exact ret _ _ _ _ _ dX5_spans_31 (iv_w (iv_c (x := (1 : Int32)) (k := 1) (by decide)) (by decide)) (⟨rfl, iv_w (iv_c (x := (1 : Int32)) (k := 1) (by decide)) (by decide), by have b0a := (hx1_23l).1; have b0b := (hx1_23l).2; have b1a := (hx2_13l).1; have b1b := (hx2_13l).2; have b2a := (hv10).1; have b2b := (hv10).2; have b3a := (hv22_23r).1; have b3b := (hv22_23r).2; omega⟩) hS
set_option maxHeartbeats 4000000 in
set_option maxRecDepth 100000 in
theorem t_X9_paste_x (l : Launch) {D : va_G} {c0 : Nat → ClassId} {Y : Nat → Option Nat} {ν : Nat → Nat} {H : Heap} (hT : TI D vwCl (tysOf c0) (RTg ν) Y H) {a0 : Nat} (ha0 : Y a0 = some 9) {x1 : Int32} (hx1 : iv x1 (-2147483648) 2147483647) {x2 : Int32} (hx2 : iv x2 (-2147483648) 2147483647) {x3 : Int32} (hx3 : iv x3 (-2147483648) 2147483647) {x4 : Int32} (hx4 : iv x4 (-2147483648) 2147483647) {x5 : Int32} (hx5 : iv x5 (-2147483648) 2147483647) {F : slF} (hSL : SLg D Y a0 F H) : Met l yX9_paste (wz yX9_paste cX9_paste 8 (some .int)) { frames := 1, cells := 0, slots := 0, locals := 60 } (TP D vwCl (tysOf c0) H [.ref a0, .int x1, .int x2, .int x3, .int x4, .int x5]) (TQi (fun x H' => TI D vwCl (tysOf c0) (RTg ν) Y H' ∧ iv x (-8) 0 ∧ (((¬ ((0 ≤ x1.toInt ∧ x1.toInt ≤ 3) ∧ (0 ≤ x3.toInt ∧ x3.toInt ≤ 3)) ∧ x.toInt = -2) ∨ (((0 ≤ x1.toInt ∧ x1.toInt ≤ 3) ∧ (0 ≤ x3.toInt ∧ x3.toInt ≤ 3)) ∧ ¬ (¬ (F x1.toNatClampNeg).1.toInt = 0 ∧ ¬ (F x3.toNatClampNeg).1.toInt = 0) ∧ x.toInt = -6) ∨ (((0 ≤ x1.toInt ∧ x1.toInt ≤ 3) ∧ (0 ≤ x3.toInt ∧ x3.toInt ≤ 3)) ∧ (¬ (F x1.toNatClampNeg).1.toInt = 0 ∧ ¬ (F x3.toNatClampNeg).1.toInt = 0) ∧ ¬ (F x1.toNatClampNeg).2.1.toInt = (F x3.toNatClampNeg).2.1.toInt ∧ x.toInt = -8) ∨ (((0 ≤ x1.toInt ∧ x1.toInt ≤ 3) ∧ (0 ≤ x3.toInt ∧ x3.toInt ≤ 3)) ∧ (¬ (F x1.toNatClampNeg).1.toInt = 0 ∧ ¬ (F x3.toNatClampNeg).1.toInt = 0) ∧ (F x1.toNatClampNeg).2.1.toInt = (F x3.toNatClampNeg).2.1.toInt ∧ ¬ (0 ≤ x2.toInt ∧ 0 ≤ x4.toInt ∧ 0 ≤ x5.toInt ∧ x2.toInt + x5.toInt ≤ (F x1.toNatClampNeg).2.2.toInt ∧ x4.toInt + x5.toInt ≤ (F x3.toNatClampNeg).2.2.toInt) ∧ x.toInt = -7) ∨ (((0 ≤ x1.toInt ∧ x1.toInt ≤ 3) ∧ (0 ≤ x3.toInt ∧ x3.toInt ≤ 3)) ∧ (¬ (F x1.toNatClampNeg).1.toInt = 0 ∧ ¬ (F x3.toNatClampNeg).1.toInt = 0) ∧ (F x1.toNatClampNeg).2.1.toInt = (F x3.toNatClampNeg).2.1.toInt ∧ (0 ≤ x2.toInt ∧ 0 ≤ x4.toInt ∧ 0 ≤ x5.toInt ∧ x2.toInt + x5.toInt ≤ (F x1.toNatClampNeg).2.2.toInt ∧ x4.toInt + x5.toInt ≤ (F x3.toNatClampNeg).2.2.toInt) ∧ x.toInt = 0)))) Y [27]) 0 0 (pW Y [27]) := by
  refine Met.ofW (cc := cX9_paste) (maxL := 8) (ret := (some .int)) (by decide) rfl ?_
  intro p e s m args below meth c s₁ B hml hv
  obtain ⟨rfl, rfl, hK⟩ := hv
  have hx := B.exec
  have hb := B.bytes
  have hr := B.returns
  have hts : ∀ w ∈ wq, w.before _ s = true := fun w h => atoms_spec (ws := wz yX9_paste cX9_paste 8 (some .int)) B.pre w (List.mem_cons_of_mem _ h)
  have hown : s.vm.findClass RX9 = some m.cls := findClass_of_methodNamed B.named
  have hlocks := B.notSynchronized
  obtain ⟨R, hR⟩ : ∃ R : Room, R = ({ frames := 1, cells := 0, slots := 0, locals := 60 } : Room) := ⟨_, rfl⟩
  rw [show (headSpec (wz yX9_paste cX9_paste 8 (some .int)) { frames := 1, cells := 0, slots := 0, locals := 60 }).room = R from hR.symm]
  refine ti_mi hx hb hr hlocks (fun Q ret => ?_)
  have hl := lv_entry [.ref a0, .int x1, .int x2, .int x3, .int x4, .int x5] (n := 8) (Nat.le_of_ble_eq_true rfl)
  rw [lg_entry_eq]
  generalize (lg_sl [.ref a0, .int x1, .int x2, .int x3, .int x4, .int x5] ++ List.replicate (8 - (lg_sl [.ref a0, .int x1, .int x2, .int x3, .int x4, .int x5]).length) Slot.unset).toArray = ls at hl ⊢
  have hl : lv_has ls 8 [(0, .ref a0), (1, .int x1), (2, .int x2), (3, .int x3), (4, .int x4), (5, .int x5)] := hl
  refine ti_gen (P := fun H => TI D vwCl (tysOf c0) (RTg ν) Y H ∧ (H = s.heap)) (Y := Y) (ws := [27]) ⟨hT, rfl⟩ (fun H locs hT hS => ?_)
  obtain ⟨hT, hHs⟩ := hT
  refine lv_iload_n hx hb dX9_paste_0 rfl (lv_at hl 1 rfl) ?_
  refine ti_calli (va_runS (As := [.int x1]) (rest := []) ⟨hx, hb, hml, hown, hts⟩ (t_X9_isSlot_x l hT (iv_w hx1 (by decide))) (cwS 1 hts (good_S kw_1533 kw_1534 kw_2 kw_1535) rfl rfl rfl (by decide +kernel) ⟨by rw [hR]; decide, by rw [hR]; decide⟩) (ti_preS hK) rfl rfl hl.1 rfl (lv_room (Nat.le_of_ble_eq_true rfl)) dX9_paste_1 ⟨Nat.zero_le _, Nat.zero_le _⟩) hS (pW_sub rfl) (fun v1 H1 locs hB hS _ hk1 => ?_)
  obtain ⟨hH, hv1, hp1⟩ := hB
  rw [hH] at hS ⊢
  refine lv_if_eq (tgt := 14) hx hb dX9_paste_4 (by decide) (fun c4 => ?_) (fun c4 => ?_)
  · skip
    have kl0 : (0 : Int32).toInt = 0 := by decide
    have f4 := i_eq c4
    have hv1_4l : iv v1 0 0 := iv_eql hv1 (iv_c (x := (0 : Int32)) (k := 0) (by decide)) c4 (by decide)
    refine lv_bipush (v := (-2)) hx hb dX9_paste_14 (by decide) ?_
    have klm2 : (-2 : Int32).toInt = (-2) := by decide
    exact ret _ _ _ _ _ dX9_paste_16 (⟨hT, iv_w (iv_c (x := (-2 : Int32)) (k := (-2)) (by decide)) (by decide), by have b0a := (hx1).1; have b0b := (hx1).2; have b1a := (hx2).1; have b1b := (hx2).2; have b2a := (hx3).1; have b2b := (hx3).2; have b3a := (hx4).1; have b3b := (hx4).2; have b4a := (hx5).1; have b4b := (hx5).2; have b5a := (hv1_4l).1; have b5b := (hv1_4l).2; omega⟩) hS
  · skip
    have kl0 : (0 : Int32).toInt = 0 := by decide
    have f4 := i_ne c4
    have hv1_4l : iv v1 1 1 := iv_nel hv1 (iv_c (x := (0 : Int32)) (k := 0) (by decide)) c4 (by decide)
    have hx1_4p : iv x1 0 3 := by have b0a := (hx1).1; have b0b := (hx1).2; exact ⟨by omega, by omega⟩
    refine lv_iload_n hx hb dX9_paste_7 rfl (lv_at hl 3 rfl) ?_
    refine ti_calli (va_runS (As := [.int x3]) (rest := []) ⟨hx, hb, hml, hown, hts⟩ (t_X9_isSlot_x l hT (iv_w hx3 (by decide))) (cwS 1 hts (good_S kw_1533 kw_1534 kw_2 kw_1535) rfl rfl rfl (by decide +kernel) ⟨by rw [hR]; decide, by rw [hR]; decide⟩) (ti_preS hK) rfl rfl hl.1 rfl (lv_room (Nat.le_of_ble_eq_true rfl)) dX9_paste_8 ⟨Nat.zero_le _, Nat.zero_le _⟩) hS (pW_sub rfl) (fun v8 H1 locs hB hS _ hk8 => ?_)
    obtain ⟨hH, hv8, hp8⟩ := hB
    rw [hH] at hS ⊢
    refine lv_if_ne (tgt := 17) hx hb dX9_paste_11 (by decide) (fun c11 => ?_) (fun c11 => ?_)
    · skip
      have f11 := i_ne c11
      have hv8_11l : iv v8 1 1 := iv_nel hv8 (iv_c (x := (0 : Int32)) (k := 0) (by decide)) c11 (by decide)
      have hx3_11p : iv x3 0 3 := by have b0a := (hx3).1; have b0b := (hx3).2; exact ⟨by omega, by omega⟩
      refine lv_aload_n hx hb dX9_paste_17 rfl (lv_at hl 0 rfl) ?_
      refine ti_getr hx hb hts inlX9 hown hK hT ha0 rfl rfl rfl 5 (by decide) (hts _ kw_26) (fun _ h9 => h9) rfl dX9_paste_18 (fun v18 hv18 hm18 => ?_)
      refine lv_iload_n hx hb dX9_paste_21 rfl (lv_at hl 1 rfl) ?_
      refine ti_aaldM hx hb (aT5 hK) hT hv18 rfl hx1_4p (by decide) (fun _ _ _ => rfl) dX9_paste_22 (fun v22 hv22 hma22 => ?_)
      refine lv_astore (lv' := [(6, .ref v22), (0, .ref a0), (1, .int x1), (2, .int x2), (3, .int x3), (4, .int x4), (5, .int x5)]) hx hb dX9_paste_23 hl (by decide) rfl (fun ls hl => ?_)
      refine lv_aload_n hx hb dX9_paste_25 rfl (lv_at hl 1 rfl) ?_
      refine ti_getE (ci := 9) (v := .ref v18) hx hb hts inlX9 hown hK hm18 rfl (by decide) (hts _ kw_26) (fun _ h9 => h9) dX9_paste_26 ?_
      refine lv_iload_n hx hb dX9_paste_29 rfl (lv_at hl 4 rfl) ?_
      refine ti_aaldM hx hb (aT5 hK) hT hv18 rfl hx3_11p (by decide) (fun _ _ _ => rfl) dX9_paste_30 (fun v30 hv30 hma30 => ?_)
      refine lv_astore (lv' := [(7, .ref v30), (6, .ref v22), (0, .ref a0), (1, .int x1), (2, .int x2), (3, .int x3), (4, .int x4), (5, .int x5)]) hx hb dX9_paste_31 hl (by decide) rfl (fun ls hl => ?_)
      have hSL1 : SLg D Y a0 F H := by rw [hHs]; exact hSL
      obtain ⟨s10, s11, s12⟩ := sl_at hSL1 hm18 hma22 (by have b0a := (hx1_4p).1; have b0b := (hx1_4p).2; have b1a := (hx2).1; have b1b := (hx2).2; have b2a := (hx3_11p).1; have b2b := (hx3_11p).2; have b3a := (hx4).1; have b3b := (hx4).2; have b4a := (hx5).1; have b4b := (hx5).2; have b5a := (hv1_4l).1; have b5b := (hv1_4l).2; have b6a := (hv8_11l).1; have b6b := (hv8_11l).2; show x1.toInt.toNat < 4; omega)
      obtain ⟨s30, s31, s32⟩ := sl_at hSL1 hm18 hma30 (by have b0a := (hx1_4p).1; have b0b := (hx1_4p).2; have b1a := (hx2).1; have b1b := (hx2).2; have b2a := (hx3_11p).1; have b2b := (hx3_11p).2; have b3a := (hx4).1; have b3b := (hx4).2; have b4a := (hx5).1; have b4b := (hx5).2; have b5a := (hv1_4l).1; have b5b := (hv1_4l).2; have b6a := (hv8_11l).1; have b6b := (hv8_11l).2; show x3.toInt.toNat < 4; omega)
      refine lv_aload hx hb dX9_paste_33 (lv_at hl 1 rfl) ?_
      refine ti_geti hx hb hts inlX5 hown hK hT hv22 rfl rfl rfl 0 (by decide) (hts _ kw_799) (fun _ h9 => h9) rfl dX9_paste_35 (fun v35 hv35 hm35 => ?_)
      have q35 : v35.toInt = (F x1.toNatClampNeg).1.toInt := by have e9 := fi_inj hm35 s10 (q := (RX5, TX5, 4)) rfl (by decide); injection e9 with e9; rw [e9]
      refine lv_if_eq (tgt := 49) hx hb dX9_paste_38 (by decide) (fun c38 => ?_) (fun c38 => ?_)
      · skip
        have f38 := i_eq c38
        have hv35_38l : iv v35 0 0 := iv_eql hv35 (iv_c (x := (0 : Int32)) (k := 0) (by decide)) c38 (by decide)
        refine lv_bipush (v := (-6)) hx hb dX9_paste_49 (by decide) ?_
        have klm6 : (-6 : Int32).toInt = (-6) := by decide
        exact ret _ _ _ _ _ dX9_paste_51 (⟨hT, iv_w (iv_c (x := (-6 : Int32)) (k := (-6)) (by decide)) (by decide), by have b0a := (hx1_4p).1; have b0b := (hx1_4p).2; have b1a := (hx2).1; have b1b := (hx2).2; have b2a := (hx3_11p).1; have b2b := (hx3_11p).2; have b3a := (hx4).1; have b3b := (hx4).2; have b4a := (hx5).1; have b4b := (hx5).2; have b5a := (hv1_4l).1; have b5b := (hv1_4l).2; have b6a := (hv8_11l).1; have b6b := (hv8_11l).2; have b7a := (hv35_38l).1; have b7b := (hv35_38l).2; omega⟩) hS
      · skip
        have f38 := i_ne c38
        have hv35_38l : iv v35 1 1 := iv_nel hv35 (iv_c (x := (0 : Int32)) (k := 0) (by decide)) c38 (by decide)
        refine lv_aload hx hb dX9_paste_41 (lv_at hl 0 rfl) ?_
        refine ti_geti hx hb hts inlX5 hown hK hT hv30 rfl rfl rfl 0 (by decide) (hts _ kw_799) (fun _ h9 => h9) rfl dX9_paste_43 (fun v43 hv43 hm43 => ?_)
        have q43 : v43.toInt = (F x3.toNatClampNeg).1.toInt := by have e9 := fi_inj hm43 s30 (q := (RX5, TX5, 4)) rfl (by decide); injection e9 with e9; rw [e9]
        refine lv_if_ne (tgt := 52) hx hb dX9_paste_46 (by decide) (fun c46 => ?_) (fun c46 => ?_)
        · skip
          have f46 := i_ne c46
          have hv43_46l : iv v43 1 1 := iv_nel hv43 (iv_c (x := (0 : Int32)) (k := 0) (by decide)) c46 (by decide)
          refine lv_aload hx hb dX9_paste_52 (lv_at hl 1 rfl) ?_
          refine ti_geti hx hb hts inlX5 hown hK hT hv22 rfl rfl rfl 1 (by decide) (hts _ kw_1566) (fun _ h9 => h9) rfl dX9_paste_54 (fun v54 hv54 hm54 => ?_)
          refine lv_aload hx hb dX9_paste_57 (lv_at hl 0 rfl) ?_
          refine ti_geti hx hb hts inlX5 hown hK hT hv30 rfl rfl rfl 1 (by decide) (hts _ kw_1566) (fun _ h9 => h9) rfl dX9_paste_59 (fun v59 hv59 hm59 => ?_)
          have q54 : v54.toInt = (F x1.toNatClampNeg).2.1.toInt := by have e9 := fi_inj hm54 s11 (q := (RX5, TX5, 4)) rfl (by decide); injection e9 with e9; rw [e9]
          have q59 : v59.toInt = (F x3.toNatClampNeg).2.1.toInt := by have e9 := fi_inj hm59 s31 (q := (RX5, TX5, 4)) rfl (by decide); injection e9 with e9; rw [e9]
          refine lv_icmp_eq (tgt := 68) hx hb dX9_paste_62 (by decide) (fun c62 => ?_) (fun c62 => ?_)
          · skip
            have f62 := i_eq c62
            refine lv_aload hx hb dX9_paste_68 (lv_at hl 1 rfl) ?_
            refine lv_iload_n hx hb dX9_paste_70 rfl (lv_at hl 4 rfl) ?_
            refine lv_iload hx hb dX9_paste_71 (lv_at hl 7 rfl) ?_
            refine ti_calli (va_runV (As := [.int x2, .int x5]) (rest := []) ⟨hx, hb, hml, hown, hts⟩ (t_X5_spans_x l hT hv22 (iv_w hx2 (by decide)) (iv_w hx5 (by decide)) s12) (cwV 2 hts (good_V kw_1568 kw_1569 kw_1570 kw_43 kw_1571) rfl rfl rfl (by decide +kernel) ⟨by rw [hR]; decide, by rw [hR]; decide⟩) (ti_preV hK hT hv22 rfl rfl) rfl rfl hl.1 rfl (lv_room (Nat.le_of_ble_eq_true rfl)) dX9_paste_73 ⟨Nat.zero_le _, Nat.zero_le _⟩) hS (pW_sub rfl) (fun v73 H1 locs hB hS _ hk73 => ?_)
            obtain ⟨hH, hv73, hp73⟩ := hB
            rw [hH] at hS ⊢
            refine lv_if_eq (tgt := 91) hx hb dX9_paste_76 (by decide) (fun c76 => ?_) (fun c76 => ?_)
            · skip
              have f76 := i_eq c76
              have hv73_76l : iv v73 0 0 := iv_eql hv73 (iv_c (x := (0 : Int32)) (k := 0) (by decide)) c76 (by decide)
              refine lv_bipush (v := (-7)) hx hb dX9_paste_91 (by decide) ?_
              have klm7 : (-7 : Int32).toInt = (-7) := by decide
              exact ret _ _ _ _ _ dX9_paste_93 (⟨hT, iv_w (iv_c (x := (-7 : Int32)) (k := (-7)) (by decide)) (by decide), by have b0a := (hx1_4p).1; have b0b := (hx1_4p).2; have b1a := (hx2).1; have b1b := (hx2).2; have b2a := (hx3_11p).1; have b2b := (hx3_11p).2; have b3a := (hx4).1; have b3b := (hx4).2; have b4a := (hx5).1; have b4b := (hx5).2; have b5a := (hv1_4l).1; have b5b := (hv1_4l).2; have b6a := (hv8_11l).1; have b6b := (hv8_11l).2; have b7a := (hv35_38l).1; have b7b := (hv35_38l).2; have b8a := (hv43_46l).1; have b8b := (hv43_46l).2; have b9a := (hv54).1; have b9b := (hv54).2; have b10a := (hv59).1; have b10b := (hv59).2; have b11a := (hv73_76l).1; have b11b := (hv73_76l).2; omega⟩) hS
            · skip
              have f76 := i_ne c76
              have hv73_76l : iv v73 1 1 := iv_nel hv73 (iv_c (x := (0 : Int32)) (k := 0) (by decide)) c76 (by decide)
              have hx2_76p : iv x2 0 60 := by have b0a := (hx2).1; have b0b := (hx2).2; exact ⟨by omega, by omega⟩
              have hx5_76p : iv x5 0 60 := by have b0a := (hx5).1; have b0b := (hx5).2; exact ⟨by omega, by omega⟩
              refine lv_aload hx hb dX9_paste_79 (lv_at hl 0 rfl) ?_
              refine lv_iload hx hb dX9_paste_81 (lv_at hl 6 rfl) ?_
              refine lv_iload hx hb dX9_paste_83 (lv_at hl 7 rfl) ?_
              refine ti_calli (va_runV (As := [.int x4, .int x5]) (rest := []) ⟨hx, hb, hml, hown, hts⟩ (t_X5_spans_x l hT hv30 (iv_w hx4 (by decide)) (iv_w hx5_76p (by decide)) s32) (cwV 2 hts (good_V kw_1568 kw_1569 kw_1570 kw_43 kw_1571) rfl rfl rfl (by decide +kernel) ⟨by rw [hR]; decide, by rw [hR]; decide⟩) (ti_preV hK hT hv30 rfl rfl) rfl rfl hl.1 rfl (lv_room (Nat.le_of_ble_eq_true rfl)) dX9_paste_85 ⟨Nat.zero_le _, Nat.zero_le _⟩) hS (pW_sub rfl) (fun v85 H1 locs hB hS _ hk85 => ?_)
              obtain ⟨hH, hv85, hp85⟩ := hB
              rw [hH] at hS ⊢
              refine lv_if_ne (tgt := 94) hx hb dX9_paste_88 (by decide) (fun c88 => ?_) (fun c88 => ?_)
              · skip
                have f88 := i_ne c88
                have hv85_88l : iv v85 1 1 := iv_nel hv85 (iv_c (x := (0 : Int32)) (k := 0) (by decide)) c88 (by decide)
                have hx4_88p : iv x4 0 60 := by have b0a := (hx4).1; have b0b := (hx4).2; exact ⟨by omega, by omega⟩
                refine lv_aload hx hb dX9_paste_94 (lv_at hl 1 rfl) ?_
                refine ti_getr hx hb hts inlX5 hown hK hT hv22 rfl rfl rfl 3 (by decide) (hts _ kw_801) (fun _ h9 => h9) rfl dX9_paste_96 (fun v96 hv96 hm96 => ?_)
                refine lv_iload_n hx hb dX9_paste_99 rfl (lv_at hl 4 rfl) ?_
                refine lv_aload hx hb dX9_paste_100 (lv_at hl 0 rfl) ?_
                refine ti_getr hx hb hts inlX5 hown hK hT hv30 rfl rfl rfl 3 (by decide) (hts _ kw_801) (fun _ h9 => h9) rfl dX9_paste_102 (fun v102 hv102 hm102 => ?_)
                refine lv_iload hx hb dX9_paste_105 (lv_at hl 6 rfl) ?_
                refine lv_iload hx hb dX9_paste_107 (lv_at hl 7 rfl) ?_
                refine ti_copyl hx hb (by rw [hml]; exact hl.1.symm) hown (hts _ kw_1567) (hts _ kw_347) (hts _ kw_348) (hts _ kw_349) hK hT hS hv96 hv102 rfl rfl (fun _ => trivial) (fun _ _ => rfl) (by have b0a := (hx1_4p).1; have b0b := (hx1_4p).2; have b1a := (hx2_76p).1; have b1b := (hx2_76p).2; have b2a := (hx3_11p).1; have b2b := (hx3_11p).2; have b3a := (hx4_88p).1; have b3b := (hx4_88p).2; have b4a := (hx5_76p).1; have b4b := (hx5_76p).2; have b5a := (hv1_4l).1; have b5b := (hv1_4l).2; have b6a := (hv8_11l).1; have b6b := (hv8_11l).2; have b7a := (hv35_38l).1; have b7b := (hv35_38l).2; have b8a := (hv43_46l).1; have b8b := (hv43_46l).2; have b9a := (hv54).1; have b9b := (hv54).2; have b10a := (hv59).1; have b10b := (hv59).2; have b11a := (hv73_76l).1; have b11b := (hv73_76l).2; have b12a := (hv85_88l).1; have b12b := (hv85_88l).2; omega) (by have b0a := (hx1_4p).1; have b0b := (hx1_4p).2; have b1a := (hx2_76p).1; have b1b := (hx2_76p).2; have b2a := (hx3_11p).1; have b2b := (hx3_11p).2; have b3a := (hx4_88p).1; have b3b := (hx4_88p).2; have b4a := (hx5_76p).1; have b4b := (hx5_76p).2; have b5a := (hv1_4l).1; have b5b := (hv1_4l).2; have b6a := (hv8_11l).1; have b6b := (hv8_11l).2; have b7a := (hv35_38l).1; have b7b := (hv35_38l).2; have b8a := (hv43_46l).1; have b8b := (hv43_46l).2; have b9a := (hv54).1; have b9b := (hv54).2; have b10a := (hv59).1; have b10b := (hv59).2; have b11a := (hv73_76l).1; have b11b := (hv73_76l).2; have b12a := (hv85_88l).1; have b12b := (hv85_88l).2; omega) (by have b0a := (hx1_4p).1; have b0b := (hx1_4p).2; have b1a := (hx2_76p).1; have b1b := (hx2_76p).2; have b2a := (hx3_11p).1; have b2b := (hx3_11p).2; have b3a := (hx4_88p).1; have b3b := (hx4_88p).2; have b4a := (hx5_76p).1; have b4b := (hx5_76p).2; have b5a := (hv1_4l).1; have b5b := (hv1_4l).2; have b6a := (hv8_11l).1; have b6b := (hv8_11l).2; have b7a := (hv35_38l).1; have b7b := (hv35_38l).2; have b8a := (hv43_46l).1; have b8b := (hv43_46l).2; have b9a := (hv54).1; have b9b := (hv54).2; have b10a := (hv59).1; have b10b := (hv59).2; have b11a := (hv73_76l).1; have b11b := (hv73_76l).2; have b12a := (hv85_88l).1; have b12b := (hv85_88l).2; omega) (by have b0a := (hx1_4p).1; have b0b := (hx1_4p).2; have b1a := (hx2_76p).1; have b1b := (hx2_76p).2; have b2a := (hx3_11p).1; have b2b := (hx3_11p).2; have b3a := (hx4_88p).1; have b3b := (hx4_88p).2; have b4a := (hx5_76p).1; have b4b := (hx5_76p).2; have b5a := (hv1_4l).1; have b5b := (hv1_4l).2; have b6a := (hv8_11l).1; have b6b := (hv8_11l).2; have b7a := (hv35_38l).1; have b7b := (hv35_38l).2; have b8a := (hv43_46l).1; have b8b := (hv43_46l).2; have b9a := (hv54).1; have b9b := (hv54).2; have b10a := (hv59).1; have b10b := (hv59).2; have b11a := (hv73_76l).1; have b11b := (hv73_76l).2; have b12a := (hv85_88l).1; have b12b := (hv85_88l).2; show _ ≤ (60 : Int); omega) (by have b0a := (hx1_4p).1; have b0b := (hx1_4p).2; have b1a := (hx2_76p).1; have b1b := (hx2_76p).2; have b2a := (hx3_11p).1; have b2b := (hx3_11p).2; have b3a := (hx4_88p).1; have b3b := (hx4_88p).2; have b4a := (hx5_76p).1; have b4b := (hx5_76p).2; have b5a := (hv1_4l).1; have b5b := (hv1_4l).2; have b6a := (hv8_11l).1; have b6b := (hv8_11l).2; have b7a := (hv35_38l).1; have b7b := (hv35_38l).2; have b8a := (hv43_46l).1; have b8b := (hv43_46l).2; have b9a := (hv54).1; have b9b := (hv54).2; have b10a := (hv59).1; have b10b := (hv59).2; have b11a := (hv73_76l).1; have b11b := (hv73_76l).2; have b12a := (hv85_88l).1; have b12b := (hv85_88l).2; show _ ≤ (60 : Int); omega) (by rw [hR]; decide) (by rw [hR]; exact Nat.le_of_ble_eq_true rfl) dX9_paste_109 (fun H locs hT hS => ?_)
                refine lv_iconst (v := 0) hx hb dX9_paste_112 (by decide) ?_
                exact ret _ _ _ _ _ dX9_paste_113 (⟨hT, iv_w (iv_c (x := (0 : Int32)) (k := 0) (by decide)) (by decide), by have b0a := (hx1_4p).1; have b0b := (hx1_4p).2; have b1a := (hx2_76p).1; have b1b := (hx2_76p).2; have b2a := (hx3_11p).1; have b2b := (hx3_11p).2; have b3a := (hx4_88p).1; have b3b := (hx4_88p).2; have b4a := (hx5_76p).1; have b4b := (hx5_76p).2; have b5a := (hv1_4l).1; have b5b := (hv1_4l).2; have b6a := (hv8_11l).1; have b6b := (hv8_11l).2; have b7a := (hv35_38l).1; have b7b := (hv35_38l).2; have b8a := (hv43_46l).1; have b8b := (hv43_46l).2; have b9a := (hv54).1; have b9b := (hv54).2; have b10a := (hv59).1; have b10b := (hv59).2; have b11a := (hv73_76l).1; have b11b := (hv73_76l).2; have b12a := (hv85_88l).1; have b12b := (hv85_88l).2; omega⟩) hS
              · skip
                have f88 := i_eq c88
                have hv85_88l : iv v85 0 0 := iv_eql hv85 (iv_c (x := (0 : Int32)) (k := 0) (by decide)) c88 (by decide)
                refine lv_bipush (v := (-7)) hx hb dX9_paste_91 (by decide) ?_
                have klm7 : (-7 : Int32).toInt = (-7) := by decide
                exact ret _ _ _ _ _ dX9_paste_93 (⟨hT, iv_w (iv_c (x := (-7 : Int32)) (k := (-7)) (by decide)) (by decide), by have b0a := (hx1_4p).1; have b0b := (hx1_4p).2; have b1a := (hx2_76p).1; have b1b := (hx2_76p).2; have b2a := (hx3_11p).1; have b2b := (hx3_11p).2; have b3a := (hx4).1; have b3b := (hx4).2; have b4a := (hx5_76p).1; have b4b := (hx5_76p).2; have b5a := (hv1_4l).1; have b5b := (hv1_4l).2; have b6a := (hv8_11l).1; have b6b := (hv8_11l).2; have b7a := (hv35_38l).1; have b7b := (hv35_38l).2; have b8a := (hv43_46l).1; have b8b := (hv43_46l).2; have b9a := (hv54).1; have b9b := (hv54).2; have b10a := (hv59).1; have b10b := (hv59).2; have b11a := (hv73_76l).1; have b11b := (hv73_76l).2; have b12a := (hv85_88l).1; have b12b := (hv85_88l).2; omega⟩) hS
          · skip
            have f62 := i_ne c62
            refine lv_bipush (v := (-8)) hx hb dX9_paste_65 (by decide) ?_
            have klm8 : (-8 : Int32).toInt = (-8) := by decide
            exact ret _ _ _ _ _ dX9_paste_67 (⟨hT, iv_w (iv_c (x := (-8 : Int32)) (k := (-8)) (by decide)) (by decide), by have b0a := (hx1_4p).1; have b0b := (hx1_4p).2; have b1a := (hx2).1; have b1b := (hx2).2; have b2a := (hx3_11p).1; have b2b := (hx3_11p).2; have b3a := (hx4).1; have b3b := (hx4).2; have b4a := (hx5).1; have b4b := (hx5).2; have b5a := (hv1_4l).1; have b5b := (hv1_4l).2; have b6a := (hv8_11l).1; have b6b := (hv8_11l).2; have b7a := (hv35_38l).1; have b7b := (hv35_38l).2; have b8a := (hv43_46l).1; have b8b := (hv43_46l).2; have b9a := (hv54).1; have b9b := (hv54).2; have b10a := (hv59).1; have b10b := (hv59).2; omega⟩) hS
        · skip
          have f46 := i_eq c46
          have hv43_46l : iv v43 0 0 := iv_eql hv43 (iv_c (x := (0 : Int32)) (k := 0) (by decide)) c46 (by decide)
          refine lv_bipush (v := (-6)) hx hb dX9_paste_49 (by decide) ?_
          have klm6 : (-6 : Int32).toInt = (-6) := by decide
          exact ret _ _ _ _ _ dX9_paste_51 (⟨hT, iv_w (iv_c (x := (-6 : Int32)) (k := (-6)) (by decide)) (by decide), by have b0a := (hx1_4p).1; have b0b := (hx1_4p).2; have b1a := (hx2).1; have b1b := (hx2).2; have b2a := (hx3_11p).1; have b2b := (hx3_11p).2; have b3a := (hx4).1; have b3b := (hx4).2; have b4a := (hx5).1; have b4b := (hx5).2; have b5a := (hv1_4l).1; have b5b := (hv1_4l).2; have b6a := (hv8_11l).1; have b6b := (hv8_11l).2; have b7a := (hv35_38l).1; have b7b := (hv35_38l).2; have b8a := (hv43_46l).1; have b8b := (hv43_46l).2; omega⟩) hS
    · skip
      have f11 := i_eq c11
      have hv8_11l : iv v8 0 0 := iv_eql hv8 (iv_c (x := (0 : Int32)) (k := 0) (by decide)) c11 (by decide)
      refine lv_bipush (v := (-2)) hx hb dX9_paste_14 (by decide) ?_
      have klm2 : (-2 : Int32).toInt = (-2) := by decide
      exact ret _ _ _ _ _ dX9_paste_16 (⟨hT, iv_w (iv_c (x := (-2 : Int32)) (k := (-2)) (by decide)) (by decide), by have b0a := (hx1_4p).1; have b0b := (hx1_4p).2; have b1a := (hx2).1; have b1b := (hx2).2; have b2a := (hx3).1; have b2b := (hx3).2; have b3a := (hx4).1; have b3b := (hx4).2; have b4a := (hx5).1; have b4b := (hx5).2; have b5a := (hv1_4l).1; have b5b := (hv1_4l).2; have b6a := (hv8_11l).1; have b6b := (hv8_11l).2; omega⟩) hS
set_option maxHeartbeats 4000000 in
set_option maxRecDepth 100000 in
theorem t_X10_in_x (l : Launch) {D : va_G} {c0 : Nat → ClassId} {Y : Nat → Option Nat} {ν : Nat → Nat} {H : Heap} (hT : TI D vwCl (tysOf c0) (RTg ν) Y H) {x0 : Int64} (hx0 : jv x0 (-9223372036854775808) 9223372036854775807) {x1 : Int64} (hx1 : jv x1 (-1) 97) {x2 : Int64} (hx2 : jv x2 (-2147483648) 2000000000) : Met l yX10_in (wz yX10_in cX10_in 6 (some .boolean)) { frames := 0, cells := 0, slots := 0, locals := 0 } (TP D vwCl (tysOf c0) H [.long x0, .long x1, .long x2]) (TQi (fun x H' => H' = H ∧ iv x 0 1 ∧ ((((x1.toInt ≤ x0.toInt ∧ x0.toInt ≤ x2.toInt) ∧ x.toInt = 1) ∨ (¬ (x1.toInt ≤ x0.toInt ∧ x0.toInt ≤ x2.toInt) ∧ x.toInt = 0)))) Y []) 0 0 (pW Y []) := by
  refine Met.ofW (cc := cX10_in) (maxL := 6) (ret := (some .boolean)) (by decide) rfl ?_
  intro p e s m args below meth c s₁ B hml hv
  obtain ⟨rfl, rfl, hK⟩ := hv
  have hx := B.exec
  have hb := B.bytes
  have hr := B.returns
  have hts : ∀ w ∈ wq, w.before _ s = true := fun w h => atoms_spec (ws := wz yX10_in cX10_in 6 (some .boolean)) B.pre w (List.mem_cons_of_mem _ h)
  have hown : s.vm.findClass RX10 = some m.cls := findClass_of_methodNamed B.named
  have hlocks := B.notSynchronized
  obtain ⟨R, hR⟩ : ∃ R : Room, R = ({ frames := 0, cells := 0, slots := 0, locals := 0 } : Room) := ⟨_, rfl⟩
  rw [show (headSpec (wz yX10_in cX10_in 6 (some .boolean)) { frames := 0, cells := 0, slots := 0, locals := 0 }).room = R from hR.symm]
  refine ti_mz hx hb hr hlocks (fun Q ret => ?_)
  have hl := lv_entry [.long x0, .long x1, .long x2] (n := 6) (Nat.le_of_ble_eq_true rfl)
  rw [lg_entry_eq]
  generalize (lg_sl [.long x0, .long x1, .long x2] ++ List.replicate (6 - (lg_sl [.long x0, .long x1, .long x2]).length) Slot.unset).toArray = ls at hl ⊢
  have hl : lv_has ls 6 [(0, .long x0), (2, .long x1), (4, .long x2)] := hl
  have hS : va_S (pW Y []) s.heap s.heap [] := va_S.rf
  refine lv_lload_n hx hb dX10_in_0 rfl (lv_at hl 0 rfl) ?_
  refine lv_lload_n hx hb dX10_in_1 rfl (lv_at hl 1 rfl) ?_
  refine W.lcmp hx hb dX10_in_2 ?_
  refine lv_if_lt (tgt := 17) hx hb dX10_in_3 (by decide) (fun c3 => ?_) (fun c3 => ?_)
  · skip
    have kl0 : (0 : Int32).toInt = 0 := by decide
    have f3 := jc_lt c3
    have hx0_3a : jv x0 (-9223372036854775808) 96 := by have b0a := (hx0).1; have b0b := (hx0).2; have b1a := (hx1).1; have b1b := (hx1).2; exact ⟨by omega, by omega⟩
    refine lv_iconst (v := 0) hx hb dX10_in_17 (by decide) ?_
    exact ret _ _ _ _ _ dX10_in_18 (iv_w (iv_c (x := (0 : Int32)) (k := 0) (by decide)) (by decide)) (⟨rfl, iv_w (iv_c (x := (0 : Int32)) (k := 0) (by decide)) (by decide), by have b0a := (hx0_3a).1; have b0b := (hx0_3a).2; have b1a := (hx1).1; have b1b := (hx1).2; have b2a := (hx2).1; have b2b := (hx2).2; omega⟩) hS
  · skip
    have kl0 : (0 : Int32).toInt = 0 := by decide
    have f3 := jc_nlt c3
    have hx0_3a : jv x0 (-1) 9223372036854775807 := by have b0a := (hx0).1; have b0b := (hx0).2; have b1a := (hx1).1; have b1b := (hx1).2; exact ⟨by omega, by omega⟩
    refine lv_lload_n hx hb dX10_in_6 rfl (lv_at hl 0 rfl) ?_
    refine lv_lload hx hb dX10_in_7 (lv_at hl 2 rfl) ?_
    refine W.lcmp hx hb dX10_in_9 ?_
    refine lv_if_gt (tgt := 17) hx hb dX10_in_10 (by decide) (fun c10 => ?_) (fun c10 => ?_)
    · skip
      have f10 := jc_gt c10
      refine lv_iconst (v := 0) hx hb dX10_in_17 (by decide) ?_
      exact ret _ _ _ _ _ dX10_in_18 (iv_w (iv_c (x := (0 : Int32)) (k := 0) (by decide)) (by decide)) (⟨rfl, iv_w (iv_c (x := (0 : Int32)) (k := 0) (by decide)) (by decide), by have b0a := (hx0_3a).1; have b0b := (hx0_3a).2; have b1a := (hx1).1; have b1b := (hx1).2; have b2a := (hx2).1; have b2b := (hx2).2; omega⟩) hS
    · skip
      have f10 := jc_ngt c10
      have hx0_10a : jv x0 (-1) 2000000000 := by have b0a := (hx0_3a).1; have b0b := (hx0_3a).2; have b1a := (hx2).1; have b1b := (hx2).2; exact ⟨by omega, by omega⟩
      have hx2_10b : jv x2 (-1) 2000000000 := by have b0a := (hx0_10a).1; have b0b := (hx0_10a).2; have b1a := (hx2).1; have b1b := (hx2).2; exact ⟨by omega, by omega⟩
      refine lv_iconst (v := 1) hx hb dX10_in_13 (by decide) ?_
      refine lv_goto (tgt := 18) hx hb dX10_in_14 (by decide) ?_
      have kl1 : (1 : Int32).toInt = 1 := by decide
      exact ret _ _ _ _ _ dX10_in_18 (iv_w (iv_c (x := (1 : Int32)) (k := 1) (by decide)) (by decide)) (⟨rfl, iv_w (iv_c (x := (1 : Int32)) (k := 1) (by decide)) (by decide), by have b0a := (hx0_10a).1; have b0b := (hx0_10a).2; have b1a := (hx1).1; have b1b := (hx1).2; have b2a := (hx2_10b).1; have b2b := (hx2_10b).2; omega⟩) hS
set_option maxHeartbeats 4000000 in
set_option maxRecDepth 100000 in
theorem t_X10_isSlot_x (l : Launch) {D : va_G} {c0 : Nat → ClassId} {Y : Nat → Option Nat} {ν : Nat → Nat} {H : Heap} (hT : TI D vwCl (tysOf c0) (RTg ν) Y H) {x0 : Int32} (hx0 : iv x0 (-2147483648) 2147483647) : Met l yX10_isSlot (wz yX10_isSlot cX10_isSlot 1 (some .boolean)) { frames := 1, cells := 0, slots := 0, locals := 25 } (TP D vwCl (tysOf c0) H [.int x0]) (TQi (fun x H' => H' = H ∧ iv x 0 1 ∧ ((((0 ≤ x0.toInt ∧ x0.toInt ≤ 3) ∧ x.toInt = 1) ∨ (¬ (0 ≤ x0.toInt ∧ x0.toInt ≤ 3) ∧ x.toInt = 0)))) Y []) 0 0 (pW Y []) := by
  refine Met.ofW (cc := cX10_isSlot) (maxL := 1) (ret := (some .boolean)) (by decide) rfl ?_
  intro p e s m args below meth c s₁ B hml hv
  obtain ⟨rfl, rfl, hK⟩ := hv
  have hx := B.exec
  have hb := B.bytes
  have hr := B.returns
  have hts : ∀ w ∈ wq, w.before _ s = true := fun w h => atoms_spec (ws := wz yX10_isSlot cX10_isSlot 1 (some .boolean)) B.pre w (List.mem_cons_of_mem _ h)
  have hown : s.vm.findClass RX10 = some m.cls := findClass_of_methodNamed B.named
  have hlocks := B.notSynchronized
  obtain ⟨R, hR⟩ : ∃ R : Room, R = ({ frames := 1, cells := 0, slots := 0, locals := 25 } : Room) := ⟨_, rfl⟩
  rw [show (headSpec (wz yX10_isSlot cX10_isSlot 1 (some .boolean)) { frames := 1, cells := 0, slots := 0, locals := 25 }).room = R from hR.symm]
  refine ti_mz hx hb hr hlocks (fun Q ret => ?_)
  have hl := lv_entry [.int x0] (n := 1) (Nat.le_of_ble_eq_true rfl)
  rw [lg_entry_eq]
  generalize (lg_sl [.int x0] ++ List.replicate (1 - (lg_sl [.int x0]).length) Slot.unset).toArray = ls at hl ⊢
  have hl : lv_has ls 1 [(0, .int x0)] := hl
  have hS : va_S (pW Y []) s.heap s.heap [] := va_S.rf
  refine lv_iload_n hx hb dX10_isSlot_0 rfl (lv_at hl 0 rfl) ?_
  refine lv_i2l hx hb dX10_isSlot_1 rfl ?_
  refine lv_topl (fun v1 e1 => ?_)
  have hv1 : jv v1 (-2147483648) 2147483647 := by rw [e1]; exact jv_i hx0
  have t1 : v1.toInt = x0.toInt := by rw [e1]; exact jv_e _
  refine lv_lconst (v := 0) hx hb dX10_isSlot_2 (by decide) ?_
  have kj0 : (0 : Int64).toInt = 0 := by decide
  refine lv_ldc2 (v := 3) hx hb hown (hts _ kw_485) dX10_isSlot_3 ?_
  have kj3 : (3 : Int64).toInt = 3 := by decide
  refine ti_calli (va_runS (As := [.long v1, .long (0 : Int64), .long (3 : Int64)]) (rest := []) ⟨hx, hb, hml, hown, hts⟩ (t_X10_in_x l hT (jv_w hv1 (by decide)) (jv_w (jv_c (x := (0 : Int64)) (k := 0) (by decide)) (by decide)) (jv_w (jv_c (x := (3 : Int64)) (k := 3) (by decide)) (by decide))) (cwS 3 hts (good_S kw_181 kw_182 kw_5 kw_183) rfl rfl rfl (by decide +kernel) ⟨by rw [hR]; decide, by rw [hR]; decide⟩) (ti_preS hK) rfl rfl hl.1 rfl (lv_room (Nat.le_of_ble_eq_true rfl)) dX10_isSlot_6 ⟨Nat.zero_le _, Nat.zero_le _⟩) hS (pW_sub rfl) (fun v6 H1 locs hB hS _ hk6 => ?_)
  obtain ⟨hH, hv6, hp6⟩ := hB
  rw [hH] at hS ⊢
  exact ret _ _ _ _ _ dX10_isSlot_9 (iv_w hv6 (by decide)) (⟨rfl, iv_w hv6 (by decide), by have b0a := (hx0).1; have b0b := (hx0).2; have b1a := (hv6).1; have b1b := (hv6).2; have b2a := (hv1).1; have b2b := (hv1).2; omega⟩) hS
set_option maxHeartbeats 4000000 in
set_option maxRecDepth 100000 in
theorem t_X10_row_x (l : Launch) {D : va_G} {c0 : Nat → ClassId} {Y : Nat → Option Nat} {ν : Nat → Nat} {H : Heap} (hT : TI D vwCl (tysOf c0) (RTg ν) Y H) {a0 : Nat} (ha0 : Y a0 = some 10) {x1 : Int32} (hx1 : iv x1 (-2147483648) 2147483647) {x2 : Int32} (hx2 : iv x2 (-2147483648) 2147483647) {x3 : Int32} (hx3 : iv x3 (-2147483648) 2147483647) (hνb : ∀ j, j < 4 → ν (6 + j) ≤ 61) (hU : uq Y) : Met l yX10_row (wz yX10_row cX10_row 5 (some .int)) { frames := 2, cells := 0, slots := 0, locals := 45 } (TP D vwCl (tysOf c0) H [.ref a0, .int x1, .int x2, .int x3]) (TQi (fun x H' => (∃ ν' : Nat → Nat, (∀ j, j < 6 → ν' j = ν j) ∧ (∀ j, j < 4 → ν' (6 + j) ≤ 61) ∧ (∀ j : Nat, j < 4 → (rowOK x1 x2 x3 ∧ j = x1.toNatClampNeg → ν' (6 + j) = x3.toNatClampNeg + 1) ∧ (¬ (rowOK x1 x2 x3 ∧ j = x1.toNatClampNeg) → ν' (6 + j) = ν (6 + j))) ∧ TI D vwCl (tysOf c0) (RTg ν') Y H') ∧ iv x (-3) 0 ∧ ((∀ wd, Y wd = some 38 → (rowOK x1 x2 x3 → am wd x1.toNatClampNeg (.int x2) H' ∧ ∀ (j : Nat) (v : Value), j ≠ x1.toNatClampNeg → am wd j v H → am wd j v H') ∧ (¬ rowOK x1 x2 x3 → ∀ (j : Nat) (v : Value), am wd j v H → am wd j v H')))) Y [37, 38, 39]) 0 0 (pW Y [37, 38, 39]) := by
  refine Met.ofW (cc := cX10_row) (maxL := 5) (ret := (some .int)) (by decide) rfl ?_
  intro p e s m args below meth c s₁ B hml hv
  obtain ⟨rfl, rfl, hK⟩ := hv
  have hx := B.exec
  have hb := B.bytes
  have hr := B.returns
  have hts : ∀ w ∈ wq, w.before _ s = true := fun w h => atoms_spec (ws := wz yX10_row cX10_row 5 (some .int)) B.pre w (List.mem_cons_of_mem _ h)
  have hown : s.vm.findClass RX10 = some m.cls := findClass_of_methodNamed B.named
  have hlocks := B.notSynchronized
  obtain ⟨R, hR⟩ : ∃ R : Room, R = ({ frames := 2, cells := 0, slots := 0, locals := 45 } : Room) := ⟨_, rfl⟩
  rw [show (headSpec (wz yX10_row cX10_row 5 (some .int)) { frames := 2, cells := 0, slots := 0, locals := 45 }).room = R from hR.symm]
  refine ti_mi hx hb hr hlocks (fun Q ret => ?_)
  have hl := lv_entry [.ref a0, .int x1, .int x2, .int x3] (n := 5) (Nat.le_of_ble_eq_true rfl)
  rw [lg_entry_eq]
  generalize (lg_sl [.ref a0, .int x1, .int x2, .int x3] ++ List.replicate (5 - (lg_sl [.ref a0, .int x1, .int x2, .int x3]).length) Slot.unset).toArray = ls at hl ⊢
  have hl : lv_has ls 5 [(0, .ref a0), (1, .int x1), (2, .int x2), (3, .int x3)] := hl
  refine ti_gen (P := fun H => TI D vwCl (tysOf c0) (RTg ν) Y H ∧ (H = s.heap)) (Y := Y) (ws := [37, 38, 39]) ⟨hT, rfl⟩ (fun H locs hT hS => ?_)
  obtain ⟨hT, hHs⟩ := hT
  refine lv_iload_n hx hb dX10_row_0 rfl (lv_at hl 1 rfl) ?_
  refine ti_calli (va_runS (As := [.int x1]) (rest := []) ⟨hx, hb, hml, hown, hts⟩ (t_X10_isSlot_x l hT (iv_w hx1 (by decide))) (cwS 1 hts (good_S kw_816 kw_817 kw_5 kw_818) rfl rfl rfl (by decide +kernel) ⟨by rw [hR]; decide, by rw [hR]; decide⟩) (ti_preS hK) rfl rfl hl.1 rfl (lv_room (Nat.le_of_ble_eq_true rfl)) dX10_row_1 ⟨Nat.zero_le _, Nat.zero_le _⟩) hS (pW_sub rfl) (fun v1 H1 locs hB hS _ hk1 => ?_)
  obtain ⟨hH, hv1, hp1⟩ := hB
  rw [hH] at hS ⊢
  refine lv_if_eq (tgt := 25) hx hb dX10_row_4 (by decide) (fun c4 => ?_) (fun c4 => ?_)
  · skip
    have kl0 : (0 : Int32).toInt = 0 := by decide
    have f4 := i_eq c4
    have hv1_4l : iv v1 0 0 := iv_eql hv1 (iv_c (x := (0 : Int32)) (k := 0) (by decide)) c4 (by decide)
    refine lv_bipush (v := (-2)) hx hb dX10_row_25 (by decide) ?_
    have klm2 : (-2 : Int32).toInt = (-2) := by decide
    exact ret _ _ _ _ _ dX10_row_27 (⟨⟨ν, fun _ _ => rfl, hνb, fun j h9 => ⟨fun q9 => absurd q9.1 (fun q9 => by obtain ⟨⟨q1, q2⟩, ⟨q3, q4⟩, q5, q6⟩ := q9; have b0a := (hx1).1; have b0b := (hx1).2; have b1a := (hx2).1; have b1b := (hx2).2; have b2a := (hx3).1; have b2b := (hx3).2; have b3a := (hv1_4l).1; have b3b := (hv1_4l).2; omega), fun _ => rfl⟩, hT⟩, iv_w (iv_c (x := (-2 : Int32)) (k := (-2)) (by decide)) (by decide), fun wd hwd => ⟨fun q9 => absurd q9 (fun q9 => by obtain ⟨⟨q1, q2⟩, ⟨q3, q4⟩, q5, q6⟩ := q9; have b0a := (hx1).1; have b0b := (hx1).2; have b1a := (hx2).1; have b1b := (hx2).2; have b2a := (hx3).1; have b2b := (hx3).2; have b3a := (hv1_4l).1; have b3b := (hv1_4l).2; omega), fun _ j v h9 => by rw [hHs]; exact h9⟩⟩) hS
  · skip
    have kl0 : (0 : Int32).toInt = 0 := by decide
    have f4 := i_ne c4
    have hv1_4l : iv v1 1 1 := iv_nel hv1 (iv_c (x := (0 : Int32)) (k := 0) (by decide)) c4 (by decide)
    have hx1_4p : iv x1 0 3 := by have b0a := (hx1).1; have b0b := (hx1).2; exact ⟨by omega, by omega⟩
    refine lv_iload_n hx hb dX10_row_7 rfl (lv_at hl 2 rfl) ?_
    refine lv_i2l hx hb dX10_row_8 rfl ?_
    refine lv_topl (fun v8 e8 => ?_)
    have hv8 : jv v8 (-2147483648) 2147483647 := by rw [e8]; exact jv_i hx2
    have t8 : v8.toInt = x2.toInt := by rw [e8]; exact jv_e _
    refine lv_lconst (v := 0) hx hb dX10_row_9 (by decide) ?_
    have kj0 : (0 : Int64).toInt = 0 := by decide
    refine lv_ldc2 (v := 3) hx hb hown (hts _ kw_485) dX10_row_10 ?_
    have kj3 : (3 : Int64).toInt = 3 := by decide
    refine ti_calli (va_runS (As := [.long v8, .long (0 : Int64), .long (3 : Int64)]) (rest := []) ⟨hx, hb, hml, hown, hts⟩ (t_X10_in_x l hT (jv_w hv8 (by decide)) (jv_w (jv_c (x := (0 : Int64)) (k := 0) (by decide)) (by decide)) (jv_w (jv_c (x := (3 : Int64)) (k := 3) (by decide)) (by decide))) (cwS 3 hts (good_S kw_181 kw_182 kw_5 kw_183) rfl rfl rfl (by decide +kernel) ⟨by rw [hR]; decide, by rw [hR]; decide⟩) (ti_preS hK) rfl rfl hl.1 rfl (lv_room (Nat.le_of_ble_eq_true rfl)) dX10_row_13 ⟨Nat.zero_le _, Nat.zero_le _⟩) hS (pW_sub rfl) (fun v13 H1 locs hB hS _ hk13 => ?_)
    obtain ⟨hH, hv13, hp13⟩ := hB
    rw [hH] at hS ⊢
    refine lv_if_eq (tgt := 25) hx hb dX10_row_16 (by decide) (fun c16 => ?_) (fun c16 => ?_)
    · skip
      have f16 := i_eq c16
      have hv13_16l : iv v13 0 0 := iv_eql hv13 (iv_c (x := (0 : Int32)) (k := 0) (by decide)) c16 (by decide)
      refine lv_bipush (v := (-2)) hx hb dX10_row_25 (by decide) ?_
      have klm2 : (-2 : Int32).toInt = (-2) := by decide
      exact ret _ _ _ _ _ dX10_row_27 (⟨⟨ν, fun _ _ => rfl, hνb, fun j h9 => ⟨fun q9 => absurd q9.1 (fun q9 => by obtain ⟨⟨q1, q2⟩, ⟨q3, q4⟩, q5, q6⟩ := q9; have b0a := (hx1_4p).1; have b0b := (hx1_4p).2; have b1a := (hx2).1; have b1b := (hx2).2; have b2a := (hx3).1; have b2b := (hx3).2; have b3a := (hv1_4l).1; have b3b := (hv1_4l).2; have b4a := (hv8).1; have b4b := (hv8).2; have b5a := (hv13_16l).1; have b5b := (hv13_16l).2; omega), fun _ => rfl⟩, hT⟩, iv_w (iv_c (x := (-2 : Int32)) (k := (-2)) (by decide)) (by decide), fun wd hwd => ⟨fun q9 => absurd q9 (fun q9 => by obtain ⟨⟨q1, q2⟩, ⟨q3, q4⟩, q5, q6⟩ := q9; have b0a := (hx1_4p).1; have b0b := (hx1_4p).2; have b1a := (hx2).1; have b1b := (hx2).2; have b2a := (hx3).1; have b2b := (hx3).2; have b3a := (hv1_4l).1; have b3b := (hv1_4l).2; have b4a := (hv8).1; have b4b := (hv8).2; have b5a := (hv13_16l).1; have b5b := (hv13_16l).2; omega), fun _ j v h9 => by rw [hHs]; exact h9⟩⟩) hS
    · skip
      have f16 := i_ne c16
      have hv13_16l : iv v13 1 1 := iv_nel hv13 (iv_c (x := (0 : Int32)) (k := 0) (by decide)) c16 (by decide)
      have hv8_16p : jv v8 0 3 := by have b0a := (hv8).1; have b0b := (hv8).2; have b1a := ((jv_c (x := (0 : Int64)) (k := 0) (by decide))).1; have b1b := ((jv_c (x := (0 : Int64)) (k := 0) (by decide))).2; have b2a := ((jv_c (x := (3 : Int64)) (k := 3) (by decide))).1; have b2b := ((jv_c (x := (3 : Int64)) (k := 3) (by decide))).2; exact ⟨by omega, by omega⟩
      have hx2_16p : iv x2 0 3 := by have := t8; have b0a := (hv8_16p).1; have b0b := (hv8_16p).2; have b1a := (hx2).1; have b1b := (hx2).2; exact ⟨by omega, by omega⟩
      refine lv_iload_n hx hb dX10_row_19 rfl (lv_at hl 3 rfl) ?_
      refine lv_bipush (v := 60) hx hb dX10_row_20 (by decide) ?_
      refine lv_icmp_le (tgt := 28) hx hb dX10_row_22 (by decide) (fun c22 => ?_) (fun c22 => ?_)
      · skip
        have kl60 : (60 : Int32).toInt = 60 := by decide
        have f22 := i_le c22
        have hx3_22l : iv x3 (-2147483648) 60 := iv_lel hx3 (iv_c (x := (60 : Int32)) (k := 60) (by decide)) c22 (by decide)
        refine lv_iload_n hx hb dX10_row_28 rfl (lv_at hl 3 rfl) ?_
        refine lv_if_ge (tgt := 35) hx hb dX10_row_29 (by decide) (fun c29 => ?_) (fun c29 => ?_)
        · skip
          have f29 := i_le c29
          have hx3_29r : iv x3 0 60 := iv_ler (iv_c (x := (0 : Int32)) (k := 0) (by decide)) hx3_22l c29 (by decide)
          refine lv_aload_n hx hb dX10_row_35 rfl (lv_at hl 0 rfl) ?_
          refine ti_getr hx hb hts inlX10 hown hK hT ha0 rfl rfl rfl 34 (by decide) (hts _ kw_151) (fun _ h9 => h9) rfl dX10_row_36 (fun v36 hv36 hm36 => ?_)
          refine lv_iload_n hx hb dX10_row_39 rfl (lv_at hl 1 rfl) ?_
          refine lv_iload_n hx hb dX10_row_40 rfl (lv_at hl 3 rfl) ?_
          refine xast hx hb (aT0 hK) hT hS hv36 rfl rfl hx1_4p (by decide) dX10_row_41 (fun cA ty f H locs hc hf _ he hS ob => ?_)
          have hT := row_put (n := x3.toNatClampNeg + 1) hU hT hv36 (by have b0a := (hx1_4p).1; have b0b := (hx1_4p).2; have b1a := (hx2_16p).1; have b1b := (hx2_16p).2; have b2a := (hx3_29r).1; have b2b := (hx3_29r).2; have b3a := (hv1_4l).1; have b3b := (hv1_4l).2; have b4a := (hv8_16p).1; have b4b := (hv8_16p).2; have b5a := (hv13_16l).1; have b5b := (hv13_16l).2; show x1.toInt.toNat < 4; omega) hc hf (by have b0a := (hx1_4p).1; have b0b := (hx1_4p).2; have b1a := (hx2_16p).1; have b1b := (hx2_16p).2; have b2a := (hx3_29r).1; have b2b := (hx3_29r).2; have b3a := (hv1_4l).1; have b3b := (hv1_4l).2; have b4a := (hv8_16p).1; have b4b := (hv8_16p).2; have b5a := (hv13_16l).1; have b5b := (hv13_16l).2; show x3.toInt = ((x3.toInt.toNat + 1 : Nat) : Int) - 1; omega) he ob
          refine lv_aload_n hx hb dX10_row_42 rfl (lv_at hl 0 rfl) ?_
          refine ti_getr hx hb hts inlX10 hown hK hT ha0 rfl rfl rfl 35 (by decide) (hts _ kw_152) (fun _ h9 => h9) rfl dX10_row_43 (fun v43 hv43 hm43 => ?_)
          refine lv_iload_n hx hb dX10_row_46 rfl (lv_at hl 1 rfl) ?_
          refine lv_iload_n hx hb dX10_row_47 rfl (lv_at hl 2 rfl) ?_
          refine ti_iast hx hb (aT0 hK) hT hS hv43 rfl rfl hx1_4p (by decide) (fun _ _ _ => ⟨_, _, rfl, by decide, by decide⟩) hx2_16p (fun _ _ => trivial) dX10_row_48 (fun H locs hT hS oq48 he48 hk48 => ?_)
          refine lv_iconst (v := 0) hx hb dX10_row_49 (by decide) ?_
          have J52 : ∀ (n : Nat) (j52_L4 : Int32) (H : Heap) (locs : List Loc) (ls : Array Slot), (60 - j52_L4.toInt).toNat < n → iv j52_L4 0 60 → (∀ wd, Y wd = some 38 → am wd x1.toNatClampNeg (.int x2) H ∧ ∀ (j : Nat) (v : Value), j ≠ x1.toNatClampNeg → am wd j v s.heap → am wd j v H) → TI D vwCl (tysOf c0) (RTg (νk ν (6 + x1.toNatClampNeg) (x3.toNatClampNeg + 1))) Y H → va_S (pW Y [37, 38, 39]) s.heap H locs → lv_has ls 5 [(0, .ref a0), (1, .int x1), (2, .int x2), (3, .int x3), (4, .int j52_L4)] → W p l e R s m ([.ref a0, .int x1, .int x2, .int x3] : List Value).toArray below meth c H locs 0 0 Q (F0 m 52 ls []) := by
            intro n
            induction n with
            | zero => intro j52_L4 H locs ls hms; exact absurd hms (Nat.not_lt_zero _)
            | succ n ih52 =>
              intro j52_L4 H locs ls hms52 hj52_L4 hX52_0 hT hS hl
              refine lv_iload hx hb dX10_row_52 (lv_at hl 4 rfl) ?_
              refine lv_bipush (v := 60) hx hb dX10_row_54 (by decide) ?_
              refine lv_icmp_ge (tgt := 78) hx hb dX10_row_56 (by decide) (fun c56 => ?_) (fun c56 => ?_)
              · skip
                have f56 := i_le c56
                have hj52_L4_56r : iv j52_L4 60 60 := iv_ler (iv_c (x := (60 : Int32)) (k := 60) (by decide)) hj52_L4 c56 (by decide)
                refine lv_iconst (v := 0) hx hb dX10_row_78 (by decide) ?_
                exact ret _ _ _ _ _ dX10_row_79 (⟨⟨_, fun j h9 => by show (if j = 6 + x1.toNatClampNeg then _ else ν j) = ν j; rw [if_neg (by omega)], fun j h9 => by show (if 6 + j = 6 + x1.toNatClampNeg then x3.toNatClampNeg + 1 else ν (6 + j)) ≤ 61; by_cases q9 : 6 + j = 6 + x1.toNatClampNeg; (rw [if_pos q9]; have b0a := (hx1_4p).1; have b0b := (hx1_4p).2; have b1a := (hx2_16p).1; have b1b := (hx2_16p).2; have b2a := (hx3_29r).1; have b2b := (hx3_29r).2; have b3a := (hv1_4l).1; have b3b := (hv1_4l).2; have b4a := (hv8_16p).1; have b4b := (hv8_16p).2; have b5a := (hv13_16l).1; have b5b := (hv13_16l).2; have b6a := (hj52_L4_56r).1; have b6b := (hj52_L4_56r).2; show x3.toInt.toNat + 1 ≤ 61; omega); (rw [if_neg q9]; exact hνb j h9), fun j h9 => ⟨fun q9 => by show (if 6 + j = 6 + x1.toNatClampNeg then x3.toNatClampNeg + 1 else ν (6 + j)) = _; rw [if_pos (by rw [q9.2])], fun q9 => by show (if 6 + j = 6 + x1.toNatClampNeg then x3.toNatClampNeg + 1 else ν (6 + j)) = _; rw [if_neg (fun z => q9 ⟨⟨⟨by have b0a := (hx1_4p).1; have b0b := (hx1_4p).2; have b1a := (hx2_16p).1; have b1b := (hx2_16p).2; have b2a := (hx3_29r).1; have b2b := (hx3_29r).2; have b3a := (hv1_4l).1; have b3b := (hv1_4l).2; have b4a := (hv8_16p).1; have b4b := (hv8_16p).2; have b5a := (hv13_16l).1; have b5b := (hv13_16l).2; have b6a := (hj52_L4_56r).1; have b6b := (hj52_L4_56r).2; omega, by have b0a := (hx1_4p).1; have b0b := (hx1_4p).2; have b1a := (hx2_16p).1; have b1b := (hx2_16p).2; have b2a := (hx3_29r).1; have b2b := (hx3_29r).2; have b3a := (hv1_4l).1; have b3b := (hv1_4l).2; have b4a := (hv8_16p).1; have b4b := (hv8_16p).2; have b5a := (hv13_16l).1; have b5b := (hv13_16l).2; have b6a := (hj52_L4_56r).1; have b6b := (hj52_L4_56r).2; omega⟩, ⟨by have b0a := (hx1_4p).1; have b0b := (hx1_4p).2; have b1a := (hx2_16p).1; have b1b := (hx2_16p).2; have b2a := (hx3_29r).1; have b2b := (hx3_29r).2; have b3a := (hv1_4l).1; have b3b := (hv1_4l).2; have b4a := (hv8_16p).1; have b4b := (hv8_16p).2; have b5a := (hv13_16l).1; have b5b := (hv13_16l).2; have b6a := (hj52_L4_56r).1; have b6b := (hj52_L4_56r).2; omega, by have b0a := (hx1_4p).1; have b0b := (hx1_4p).2; have b1a := (hx2_16p).1; have b1b := (hx2_16p).2; have b2a := (hx3_29r).1; have b2b := (hx3_29r).2; have b3a := (hv1_4l).1; have b3b := (hv1_4l).2; have b4a := (hv8_16p).1; have b4b := (hv8_16p).2; have b5a := (hv13_16l).1; have b5b := (hv13_16l).2; have b6a := (hj52_L4_56r).1; have b6b := (hj52_L4_56r).2; omega⟩, by have b0a := (hx1_4p).1; have b0b := (hx1_4p).2; have b1a := (hx2_16p).1; have b1b := (hx2_16p).2; have b2a := (hx3_29r).1; have b2b := (hx3_29r).2; have b3a := (hv1_4l).1; have b3b := (hv1_4l).2; have b4a := (hv8_16p).1; have b4b := (hv8_16p).2; have b5a := (hv13_16l).1; have b5b := (hv13_16l).2; have b6a := (hj52_L4_56r).1; have b6b := (hj52_L4_56r).2; omega, by have b0a := (hx1_4p).1; have b0b := (hx1_4p).2; have b1a := (hx2_16p).1; have b1b := (hx2_16p).2; have b2a := (hx3_29r).1; have b2b := (hx3_29r).2; have b3a := (hv1_4l).1; have b3b := (hv1_4l).2; have b4a := (hv8_16p).1; have b4b := (hv8_16p).2; have b5a := (hv13_16l).1; have b5b := (hv13_16l).2; have b6a := (hj52_L4_56r).1; have b6b := (hj52_L4_56r).2; omega⟩, by omega⟩)]⟩, hT⟩, iv_w (iv_c (x := (0 : Int32)) (k := 0) (by decide)) (by decide), fun wd hwd => ⟨fun _ => hX52_0 wd hwd, fun q9 => absurd ⟨⟨by have b0a := (hx1_4p).1; have b0b := (hx1_4p).2; have b1a := (hx2_16p).1; have b1b := (hx2_16p).2; have b2a := (hx3_29r).1; have b2b := (hx3_29r).2; have b3a := (hv1_4l).1; have b3b := (hv1_4l).2; have b4a := (hv8_16p).1; have b4b := (hv8_16p).2; have b5a := (hv13_16l).1; have b5b := (hv13_16l).2; have b6a := (hj52_L4_56r).1; have b6b := (hj52_L4_56r).2; omega, by have b0a := (hx1_4p).1; have b0b := (hx1_4p).2; have b1a := (hx2_16p).1; have b1b := (hx2_16p).2; have b2a := (hx3_29r).1; have b2b := (hx3_29r).2; have b3a := (hv1_4l).1; have b3b := (hv1_4l).2; have b4a := (hv8_16p).1; have b4b := (hv8_16p).2; have b5a := (hv13_16l).1; have b5b := (hv13_16l).2; have b6a := (hj52_L4_56r).1; have b6b := (hj52_L4_56r).2; omega⟩, ⟨by have b0a := (hx1_4p).1; have b0b := (hx1_4p).2; have b1a := (hx2_16p).1; have b1b := (hx2_16p).2; have b2a := (hx3_29r).1; have b2b := (hx3_29r).2; have b3a := (hv1_4l).1; have b3b := (hv1_4l).2; have b4a := (hv8_16p).1; have b4b := (hv8_16p).2; have b5a := (hv13_16l).1; have b5b := (hv13_16l).2; have b6a := (hj52_L4_56r).1; have b6b := (hj52_L4_56r).2; omega, by have b0a := (hx1_4p).1; have b0b := (hx1_4p).2; have b1a := (hx2_16p).1; have b1b := (hx2_16p).2; have b2a := (hx3_29r).1; have b2b := (hx3_29r).2; have b3a := (hv1_4l).1; have b3b := (hv1_4l).2; have b4a := (hv8_16p).1; have b4b := (hv8_16p).2; have b5a := (hv13_16l).1; have b5b := (hv13_16l).2; have b6a := (hj52_L4_56r).1; have b6b := (hj52_L4_56r).2; omega⟩, by have b0a := (hx1_4p).1; have b0b := (hx1_4p).2; have b1a := (hx2_16p).1; have b1b := (hx2_16p).2; have b2a := (hx3_29r).1; have b2b := (hx3_29r).2; have b3a := (hv1_4l).1; have b3b := (hv1_4l).2; have b4a := (hv8_16p).1; have b4b := (hv8_16p).2; have b5a := (hv13_16l).1; have b5b := (hv13_16l).2; have b6a := (hj52_L4_56r).1; have b6b := (hj52_L4_56r).2; omega, by have b0a := (hx1_4p).1; have b0b := (hx1_4p).2; have b1a := (hx2_16p).1; have b1b := (hx2_16p).2; have b2a := (hx3_29r).1; have b2b := (hx3_29r).2; have b3a := (hv1_4l).1; have b3b := (hv1_4l).2; have b4a := (hv8_16p).1; have b4b := (hv8_16p).2; have b5a := (hv13_16l).1; have b5b := (hv13_16l).2; have b6a := (hj52_L4_56r).1; have b6b := (hj52_L4_56r).2; omega⟩ q9⟩⟩) hS
              · skip
                have f56 := i_nle c56
                have hj52_L4_56l : iv j52_L4 0 59 := iv_ltl hj52_L4 (iv_c (x := (60 : Int32)) (k := 60) (by decide)) (Int32.not_le.mp c56) (by decide)
                refine lv_aload_n hx hb dX10_row_59 rfl (lv_at hl 0 rfl) ?_
                refine ti_getr hx hb hts inlX10 hown hK hT ha0 rfl rfl rfl 36 (by decide) (hts _ kw_153) (fun _ h9 => h9) rfl dX10_row_60 (fun v60 hv60 hm60 => ?_)
                refine lv_bipush (v := 60) hx hb dX10_row_63 (by decide) ?_
                refine lv_iload_n hx hb dX10_row_65 rfl (lv_at hl 1 rfl) ?_
                refine lv_imul hx hb dX10_row_66 ?_
                refine lv_topi (fun v66 e66 => ?_)
                have hv66 : iv v66 0 180 := by rw [e66]; exact iv_mul (iv_c (x := (60 : Int32)) (k := 60) (by decide)) hx1_4p (by decide)
                have s66 : v66.toInt = (60 : Int32).toInt * x1.toInt := by rw [e66]; exact iv_mulE (iv_c (x := (60 : Int32)) (k := 60) (by decide)) hx1_4p (by decide)
                have s66 : v66.toInt = 60 * x1.toInt := by rw [s66]; simp only [show (60 : Int32).toInt = 60 from by decide]; try omega
                refine lv_iload hx hb dX10_row_67 (lv_at hl 4 rfl) ?_
                refine lv_iadd hx hb dX10_row_69 ?_
                refine lv_topi (fun v69 e69 => ?_)
                have hv69 : iv v69 0 239 := by rw [e69]; exact iv_w (iv_add hv66 hj52_L4_56l (by decide)) (by decide)
                have s69 : v69.toInt = v66.toInt + j52_L4.toInt := by rw [e69]; exact iv_addE hv66 hj52_L4_56l (by decide)
                refine lv_lconst (v := 0) hx hb dX10_row_70 (by decide) ?_
                refine ti_last hx hb (aT3 hK) hT hS hv60 rfl rfl hv69 (by decide) (fun _ _ _ => rfl)  (fun _ _ => trivial) dX10_row_71 (fun H locs hT hS oq71 he71 hk71 => ?_)
                obtain ⟨v72, e72⟩ : ∃ y : Int32, y = j52_L4 + 1 := ⟨_, rfl⟩
                have hv72 : iv v72 1 60 := by rw [e72]; exact iv_w (iv_add hj52_L4_56l (iv_c (x := (1 : Int32)) (k := 1) (by decide)) (by decide)) (by decide)
                have s72 : v72.toInt = j52_L4.toInt + 1 := by rw [e72, iv_addE hj52_L4_56l (iv_c (x := (1 : Int32)) (k := 1) (by decide)) (by decide)]; rfl
                refine lv_iinc (v := v72) (lv' := [(4, .int v72), (0, .ref a0), (1, .int x1), (2, .int x2), (3, .int x3)]) hx hb dX10_row_72 hl (k := 4) rfl (by rw [e72]; rfl) (by decide) rfl (fun ls hl => ?_)
                refine lv_goto (tgt := 52) hx hb dX10_row_75 (by decide) ?_
                exact ih52 v72 _ _ _ (ms_up hms52 (by have := s72; omega) (iv_w (c := 1) (d := 60) hv72 (by decide)).2) (iv_w hv72 (by decide)) (fun wd hwd => ⟨(hX52_0 wd hwd).1.kept (oq71 _ (ne_r hwd hv60 rfl)), fun j v hj h9 => ((hX52_0 wd hwd).2 j v hj h9).kept (oq71 _ (ne_r hwd hv60 rfl))⟩) hT hS (lv_sub hl [1, 2, 3, 4, 0] rfl)
          refine lv_istore (lv' := [(4, .int (0 : Int32)), (0, .ref a0), (1, .int x1), (2, .int x2), (3, .int x3)]) hx hb dX10_row_50 hl (by decide) rfl (fun ls hl => ?_)
          exact J52 _ (0 : Int32) _ _ _ (Nat.lt_succ_self _) (iv_w (iv_c (x := (0 : Int32)) (k := 0) (by decide)) (by decide)) (fun wd hwd => by
            have e9 := hU 38 wd v43 (by decide) hwd hv43
            subst e9
            exact ⟨he48, fun j v hj h9 => by rw [← hHs] at h9; exact hk48 j v hj (h9.kept (ob _ (ne_r hwd hv36 rfl)))⟩) hT hS (lv_sub hl [1, 2, 3, 4, 0] rfl)
        · skip
          have f29 := i_nle c29
          have hx3_29l : iv x3 (-2147483648) (-1) := iv_ltl hx3_22l (iv_c (x := (0 : Int32)) (k := 0) (by decide)) (Int32.not_le.mp c29) (by decide)
          refine lv_bipush (v := (-3)) hx hb dX10_row_32 (by decide) ?_
          have klm3 : (-3 : Int32).toInt = (-3) := by decide
          exact ret _ _ _ _ _ dX10_row_34 (⟨⟨ν, fun _ _ => rfl, hνb, fun j h9 => ⟨fun q9 => absurd q9.1 (fun q9 => by obtain ⟨⟨q1, q2⟩, ⟨q3, q4⟩, q5, q6⟩ := q9; have b0a := (hx1_4p).1; have b0b := (hx1_4p).2; have b1a := (hx2_16p).1; have b1b := (hx2_16p).2; have b2a := (hx3_29l).1; have b2b := (hx3_29l).2; have b3a := (hv1_4l).1; have b3b := (hv1_4l).2; have b4a := (hv8_16p).1; have b4b := (hv8_16p).2; have b5a := (hv13_16l).1; have b5b := (hv13_16l).2; omega), fun _ => rfl⟩, hT⟩, iv_w (iv_c (x := (-3 : Int32)) (k := (-3)) (by decide)) (by decide), fun wd hwd => ⟨fun q9 => absurd q9 (fun q9 => by obtain ⟨⟨q1, q2⟩, ⟨q3, q4⟩, q5, q6⟩ := q9; have b0a := (hx1_4p).1; have b0b := (hx1_4p).2; have b1a := (hx2_16p).1; have b1b := (hx2_16p).2; have b2a := (hx3_29l).1; have b2b := (hx3_29l).2; have b3a := (hv1_4l).1; have b3b := (hv1_4l).2; have b4a := (hv8_16p).1; have b4b := (hv8_16p).2; have b5a := (hv13_16l).1; have b5b := (hv13_16l).2; omega), fun _ j v h9 => by rw [hHs]; exact h9⟩⟩) hS
      · skip
        have kl60 : (60 : Int32).toInt = 60 := by decide
        have f22 := i_nle c22
        have hx3_22r : iv x3 61 2147483647 := iv_ltr (iv_c (x := (60 : Int32)) (k := 60) (by decide)) hx3 (Int32.not_le.mp c22) (by decide)
        refine lv_bipush (v := (-2)) hx hb dX10_row_25 (by decide) ?_
        have klm2 : (-2 : Int32).toInt = (-2) := by decide
        exact ret _ _ _ _ _ dX10_row_27 (⟨⟨ν, fun _ _ => rfl, hνb, fun j h9 => ⟨fun q9 => absurd q9.1 (fun q9 => by obtain ⟨⟨q1, q2⟩, ⟨q3, q4⟩, q5, q6⟩ := q9; have b0a := (hx1_4p).1; have b0b := (hx1_4p).2; have b1a := (hx2_16p).1; have b1b := (hx2_16p).2; have b2a := (hx3_22r).1; have b2b := (hx3_22r).2; have b3a := (hv1_4l).1; have b3b := (hv1_4l).2; have b4a := (hv8_16p).1; have b4b := (hv8_16p).2; have b5a := (hv13_16l).1; have b5b := (hv13_16l).2; omega), fun _ => rfl⟩, hT⟩, iv_w (iv_c (x := (-2 : Int32)) (k := (-2)) (by decide)) (by decide), fun wd hwd => ⟨fun q9 => absurd q9 (fun q9 => by obtain ⟨⟨q1, q2⟩, ⟨q3, q4⟩, q5, q6⟩ := q9; have b0a := (hx1_4p).1; have b0b := (hx1_4p).2; have b1a := (hx2_16p).1; have b1b := (hx2_16p).2; have b2a := (hx3_22r).1; have b2b := (hx3_22r).2; have b3a := (hv1_4l).1; have b3b := (hv1_4l).2; have b4a := (hv8_16p).1; have b4b := (hv8_16p).2; have b5a := (hv13_16l).1; have b5b := (hv13_16l).2; omega), fun _ j v h9 => by rw [hHs]; exact h9⟩⟩) hS
set_option maxHeartbeats 4000000 in
set_option maxRecDepth 100000 in
theorem t_X10_paste_x (l : Launch) {D : va_G} {c0 : Nat → ClassId} {Y : Nat → Option Nat} {ν : Nat → Nat} {H : Heap} (hT : TI D vwCl (tysOf c0) (RTg ν) Y H) {a0 : Nat} (ha0 : Y a0 = some 10) {x1 : Int32} (hx1 : iv x1 (-2147483648) 2147483647) {x2 : Int32} (hx2 : iv x2 (-2147483648) 2147483647) {x3 : Int32} (hx3 : iv x3 (-2147483648) 2147483647) {x4 : Int32} (hx4 : iv x4 (-2147483648) 2147483647) {x5 : Int32} (hx5 : iv x5 (-2147483648) 2147483647) {G : Nat → Int32} (hWD : ∀ wd, Y wd = some 38 → ∀ j : Nat, j < 4 → am wd j (.int (G j)) H) (hνb : ∀ j, j < 4 → ν (6 + j) ≤ 61) (hU : uq Y) : Met l yX10_paste (wz yX10_paste cX10_paste 7 (some .int)) { frames := 2, cells := 0, slots := 0, locals := 45 } (TP D vwCl (tysOf c0) H [.ref a0, .int x1, .int x2, .int x3, .int x4, .int x5]) (TQi (fun x H' => TI D vwCl (tysOf c0) (RTg ν) Y H' ∧ iv x (-8) 0 ∧ (((¬ ((0 ≤ x1.toInt ∧ x1.toInt ≤ 3) ∧ (0 ≤ x3.toInt ∧ x3.toInt ≤ 3)) ∧ x.toInt = -2) ∨ (((0 ≤ x1.toInt ∧ x1.toInt ≤ 3) ∧ (0 ≤ x3.toInt ∧ x3.toInt ≤ 3)) ∧ ¬ (¬ ν (6 + x1.toNatClampNeg) = 0 ∧ ¬ ν (6 + x3.toNatClampNeg) = 0) ∧ x.toInt = -6) ∨ (((0 ≤ x1.toInt ∧ x1.toInt ≤ 3) ∧ (0 ≤ x3.toInt ∧ x3.toInt ≤ 3)) ∧ (¬ ν (6 + x1.toNatClampNeg) = 0 ∧ ¬ ν (6 + x3.toNatClampNeg) = 0) ∧ ¬ (G x1.toNatClampNeg).toInt = (G x3.toNatClampNeg).toInt ∧ x.toInt = -8) ∨ (((0 ≤ x1.toInt ∧ x1.toInt ≤ 3) ∧ (0 ≤ x3.toInt ∧ x3.toInt ≤ 3)) ∧ (¬ ν (6 + x1.toNatClampNeg) = 0 ∧ ¬ ν (6 + x3.toNatClampNeg) = 0) ∧ (G x1.toNatClampNeg).toInt = (G x3.toNatClampNeg).toInt ∧ ¬ (0 ≤ x2.toInt ∧ 0 ≤ x4.toInt ∧ 0 ≤ x5.toInt ∧ x2.toInt + x5.toInt + 1 ≤ (ν (6 + x1.toNatClampNeg) : Int) ∧ x4.toInt + x5.toInt + 1 ≤ (ν (6 + x3.toNatClampNeg) : Int)) ∧ x.toInt = -7) ∨ (((0 ≤ x1.toInt ∧ x1.toInt ≤ 3) ∧ (0 ≤ x3.toInt ∧ x3.toInt ≤ 3)) ∧ (¬ ν (6 + x1.toNatClampNeg) = 0 ∧ ¬ ν (6 + x3.toNatClampNeg) = 0) ∧ (G x1.toNatClampNeg).toInt = (G x3.toNatClampNeg).toInt ∧ (0 ≤ x2.toInt ∧ 0 ≤ x4.toInt ∧ 0 ≤ x5.toInt ∧ x2.toInt + x5.toInt + 1 ≤ (ν (6 + x1.toNatClampNeg) : Int) ∧ x4.toInt + x5.toInt + 1 ≤ (ν (6 + x3.toNatClampNeg) : Int)) ∧ x.toInt = 0)))) Y [27, 39]) 0 0 (pW Y [27, 39]) := by
  refine Met.ofW (cc := cX10_paste) (maxL := 7) (ret := (some .int)) (by decide) rfl ?_
  intro p e s m args below meth c s₁ B hml hv
  obtain ⟨rfl, rfl, hK⟩ := hv
  have hx := B.exec
  have hb := B.bytes
  have hr := B.returns
  have hts : ∀ w ∈ wq, w.before _ s = true := fun w h => atoms_spec (ws := wz yX10_paste cX10_paste 7 (some .int)) B.pre w (List.mem_cons_of_mem _ h)
  have hown : s.vm.findClass RX10 = some m.cls := findClass_of_methodNamed B.named
  have hlocks := B.notSynchronized
  obtain ⟨R, hR⟩ : ∃ R : Room, R = ({ frames := 2, cells := 0, slots := 0, locals := 45 } : Room) := ⟨_, rfl⟩
  rw [show (headSpec (wz yX10_paste cX10_paste 7 (some .int)) { frames := 2, cells := 0, slots := 0, locals := 45 }).room = R from hR.symm]
  refine ti_mi hx hb hr hlocks (fun Q ret => ?_)
  have hl := lv_entry [.ref a0, .int x1, .int x2, .int x3, .int x4, .int x5] (n := 7) (Nat.le_of_ble_eq_true rfl)
  rw [lg_entry_eq]
  generalize (lg_sl [.ref a0, .int x1, .int x2, .int x3, .int x4, .int x5] ++ List.replicate (7 - (lg_sl [.ref a0, .int x1, .int x2, .int x3, .int x4, .int x5]).length) Slot.unset).toArray = ls at hl ⊢
  have hl : lv_has ls 7 [(0, .ref a0), (1, .int x1), (2, .int x2), (3, .int x3), (4, .int x4), (5, .int x5)] := hl
  refine ti_gen (P := fun H => TI D vwCl (tysOf c0) (RTg ν) Y H ∧ (H = s.heap)) (Y := Y) (ws := [27, 39]) ⟨hT, rfl⟩ (fun H locs hT hS => ?_)
  obtain ⟨hT, hHs⟩ := hT
  refine lv_iload_n hx hb dX10_paste_0 rfl (lv_at hl 1 rfl) ?_
  refine ti_calli (va_runS (As := [.int x1]) (rest := []) ⟨hx, hb, hml, hown, hts⟩ (t_X10_isSlot_x l hT (iv_w hx1 (by decide))) (cwS 1 hts (good_S kw_816 kw_817 kw_5 kw_818) rfl rfl rfl (by decide +kernel) ⟨by rw [hR]; decide, by rw [hR]; decide⟩) (ti_preS hK) rfl rfl hl.1 rfl (lv_room (Nat.le_of_ble_eq_true rfl)) dX10_paste_1 ⟨Nat.zero_le _, Nat.zero_le _⟩) hS (pW_sub rfl) (fun v1 H1 locs hB hS _ hk1 => ?_)
  obtain ⟨hH, hv1, hp1⟩ := hB
  rw [hH] at hS ⊢
  refine lv_if_eq (tgt := 14) hx hb dX10_paste_4 (by decide) (fun c4 => ?_) (fun c4 => ?_)
  · skip
    have kl0 : (0 : Int32).toInt = 0 := by decide
    have f4 := i_eq c4
    have hv1_4l : iv v1 0 0 := iv_eql hv1 (iv_c (x := (0 : Int32)) (k := 0) (by decide)) c4 (by decide)
    refine lv_bipush (v := (-2)) hx hb dX10_paste_14 (by decide) ?_
    have klm2 : (-2 : Int32).toInt = (-2) := by decide
    exact ret _ _ _ _ _ dX10_paste_16 (⟨hT, iv_w (iv_c (x := (-2 : Int32)) (k := (-2)) (by decide)) (by decide), by have b0a := (hx1).1; have b0b := (hx1).2; have b1a := (hx2).1; have b1b := (hx2).2; have b2a := (hx3).1; have b2b := (hx3).2; have b3a := (hx4).1; have b3b := (hx4).2; have b4a := (hx5).1; have b4b := (hx5).2; have b5a := (hv1_4l).1; have b5b := (hv1_4l).2; omega⟩) hS
  · skip
    have kl0 : (0 : Int32).toInt = 0 := by decide
    have f4 := i_ne c4
    have hv1_4l : iv v1 1 1 := iv_nel hv1 (iv_c (x := (0 : Int32)) (k := 0) (by decide)) c4 (by decide)
    have hx1_4p : iv x1 0 3 := by have b0a := (hx1).1; have b0b := (hx1).2; exact ⟨by omega, by omega⟩
    refine lv_iload_n hx hb dX10_paste_7 rfl (lv_at hl 3 rfl) ?_
    refine ti_calli (va_runS (As := [.int x3]) (rest := []) ⟨hx, hb, hml, hown, hts⟩ (t_X10_isSlot_x l hT (iv_w hx3 (by decide))) (cwS 1 hts (good_S kw_816 kw_817 kw_5 kw_818) rfl rfl rfl (by decide +kernel) ⟨by rw [hR]; decide, by rw [hR]; decide⟩) (ti_preS hK) rfl rfl hl.1 rfl (lv_room (Nat.le_of_ble_eq_true rfl)) dX10_paste_8 ⟨Nat.zero_le _, Nat.zero_le _⟩) hS (pW_sub rfl) (fun v8 H1 locs hB hS _ hk8 => ?_)
    obtain ⟨hH, hv8, hp8⟩ := hB
    rw [hH] at hS ⊢
    refine lv_if_ne (tgt := 17) hx hb dX10_paste_11 (by decide) (fun c11 => ?_) (fun c11 => ?_)
    · skip
      have f11 := i_ne c11
      have hv8_11l : iv v8 1 1 := iv_nel hv8 (iv_c (x := (0 : Int32)) (k := 0) (by decide)) c11 (by decide)
      have hx3_11p : iv x3 0 3 := by have b0a := (hx3).1; have b0b := (hx3).2; exact ⟨by omega, by omega⟩
      refine lv_aload_n hx hb dX10_paste_17 rfl (lv_at hl 0 rfl) ?_
      refine ti_getr hx hb hts inlX10 hown hK hT ha0 rfl rfl rfl 34 (by decide) (hts _ kw_151) (fun _ h9 => h9) rfl dX10_paste_18 (fun v18 hv18 hm18 => ?_)
      refine lv_iload_n hx hb dX10_paste_21 rfl (lv_at hl 1 rfl) ?_
      refine ti_ialdD hx hb (aT0 hK) hT hv18 rfl hx1_4p (by decide) (fun j => ⟨_, _, rfl⟩) dX10_paste_22 (fun v22 hz22 _ => ?_)
      have s22 : v22.toInt = (ν (6 + x1.toNatClampNeg) : Int) - 1 := many_e hz22
      have hv22 : iv v22 (-1) 60 := many_iv hνb s22 hx1_4p (by decide)
      refine lv_iconst (v := (-1)) hx hb dX10_paste_23 (by decide) ?_
      refine lv_icmp_eq (tgt := 37) hx hb dX10_paste_24 (by decide) (fun c24 => ?_) (fun c24 => ?_)
      · skip
        have klm1 : (-1 : Int32).toInt = (-1) := by decide
        have f24 := i_eq c24
        have hv22_24l : iv v22 (-1) (-1) := iv_eql hv22 (iv_c (x := (-1 : Int32)) (k := (-1)) (by decide)) c24 (by decide)
        refine lv_bipush (v := (-6)) hx hb dX10_paste_37 (by decide) ?_
        have klm6 : (-6 : Int32).toInt = (-6) := by decide
        exact ret _ _ _ _ _ dX10_paste_39 (⟨hT, iv_w (iv_c (x := (-6 : Int32)) (k := (-6)) (by decide)) (by decide), by have b0a := (hx1_4p).1; have b0b := (hx1_4p).2; have b1a := (hx2).1; have b1b := (hx2).2; have b2a := (hx3_11p).1; have b2b := (hx3_11p).2; have b3a := (hx4).1; have b3b := (hx4).2; have b4a := (hx5).1; have b4b := (hx5).2; have b5a := (hv1_4l).1; have b5b := (hv1_4l).2; have b6a := (hv8_11l).1; have b6b := (hv8_11l).2; have b7a := (hv22_24l).1; have b7b := (hv22_24l).2; omega⟩) hS
      · skip
        have klm1 : (-1 : Int32).toInt = (-1) := by decide
        have f24 := i_ne c24
        have hv22_24l : iv v22 0 60 := iv_nel hv22 (iv_c (x := (-1 : Int32)) (k := (-1)) (by decide)) c24 (by decide)
        refine lv_aload_n hx hb dX10_paste_27 rfl (lv_at hl 0 rfl) ?_
        refine ti_getE (ci := 10) (v := .ref v18) hx hb hts inlX10 hown hK hm18 rfl (by decide) (hts _ kw_151) (fun _ h9 => h9) dX10_paste_28 ?_
        refine lv_iload_n hx hb dX10_paste_31 rfl (lv_at hl 3 rfl) ?_
        refine ti_ialdD hx hb (aT0 hK) hT hv18 rfl hx3_11p (by decide) (fun j => ⟨_, _, rfl⟩) dX10_paste_32 (fun v32 hz32 _ => ?_)
        have s32 : v32.toInt = (ν (6 + x3.toNatClampNeg) : Int) - 1 := many_e hz32
        have hv32 : iv v32 (-1) 60 := many_iv hνb s32 hx3_11p (by decide)
        refine lv_iconst (v := (-1)) hx hb dX10_paste_33 (by decide) ?_
        refine lv_icmp_ne (tgt := 40) hx hb dX10_paste_34 (by decide) (fun c34 => ?_) (fun c34 => ?_)
        · skip
          have f34 := i_ne c34
          have hv32_34l : iv v32 0 60 := iv_nel hv32 (iv_c (x := (-1 : Int32)) (k := (-1)) (by decide)) c34 (by decide)
          refine lv_aload_n hx hb dX10_paste_40 rfl (lv_at hl 0 rfl) ?_
          refine ti_getr hx hb hts inlX10 hown hK hT ha0 rfl rfl rfl 35 (by decide) (hts _ kw_152) (fun _ h9 => h9) rfl dX10_paste_41 (fun v41 hv41 hm41 => ?_)
          refine lv_iload_n hx hb dX10_paste_44 rfl (lv_at hl 1 rfl) ?_
          refine ti_iald (lo := 0) (hi := 3) hx hb (aT0 hK) hT hv41 rfl hx1_4p (by decide) (fun _ _ _ => ⟨_, _, rfl, by decide, by decide⟩) dX10_paste_45 (fun v45 hv45 hm45 => ?_)
          refine lv_aload_n hx hb dX10_paste_46 rfl (lv_at hl 0 rfl) ?_
          refine ti_getE (ci := 10) (v := .ref v41) hx hb hts inlX10 hown hK hm41 rfl (by decide) (hts _ kw_152) (fun _ h9 => h9) dX10_paste_47 ?_
          refine lv_iload_n hx hb dX10_paste_50 rfl (lv_at hl 3 rfl) ?_
          refine ti_iald (lo := 0) (hi := 3) hx hb (aT0 hK) hT hv41 rfl hx3_11p (by decide) (fun _ _ _ => ⟨_, _, rfl, by decide, by decide⟩) dX10_paste_51 (fun v51 hv51 hm51 => ?_)
          have q45 : v45.toInt = (G x1.toNatClampNeg).toInt := by have e9 := am_inj hm45 (by rw [hHs]; exact hWD v41 hv41 x1.toNatClampNeg (by have b0a := (hx1_4p).1; have b0b := (hx1_4p).2; have b1a := (hx2).1; have b1b := (hx2).2; have b2a := (hx3_11p).1; have b2b := (hx3_11p).2; have b3a := (hx4).1; have b3b := (hx4).2; have b4a := (hx5).1; have b4b := (hx5).2; have b5a := (hv1_4l).1; have b5b := (hv1_4l).2; have b6a := (hv8_11l).1; have b6b := (hv8_11l).2; have b7a := (hv22_24l).1; have b7b := (hv22_24l).2; have b8a := (hv32_34l).1; have b8b := (hv32_34l).2; have b9a := (hv45).1; have b9b := (hv45).2; have b10a := (hv51).1; have b10b := (hv51).2; show x1.toInt.toNat < 4; omega)); injection e9 with e9; rw [e9]
          have q51 : v51.toInt = (G x3.toNatClampNeg).toInt := by have e9 := am_inj hm51 (by rw [hHs]; exact hWD v41 hv41 x3.toNatClampNeg (by have b0a := (hx1_4p).1; have b0b := (hx1_4p).2; have b1a := (hx2).1; have b1b := (hx2).2; have b2a := (hx3_11p).1; have b2b := (hx3_11p).2; have b3a := (hx4).1; have b3b := (hx4).2; have b4a := (hx5).1; have b4b := (hx5).2; have b5a := (hv1_4l).1; have b5b := (hv1_4l).2; have b6a := (hv8_11l).1; have b6b := (hv8_11l).2; have b7a := (hv22_24l).1; have b7b := (hv22_24l).2; have b8a := (hv32_34l).1; have b8b := (hv32_34l).2; have b9a := (hv45).1; have b9b := (hv45).2; have b10a := (hv51).1; have b10b := (hv51).2; show x3.toInt.toNat < 4; omega)); injection e9 with e9; rw [e9]
          refine lv_icmp_eq (tgt := 58) hx hb dX10_paste_52 (by decide) (fun c52 => ?_) (fun c52 => ?_)
          · skip
            have f52 := i_eq c52
            refine lv_iload_n hx hb dX10_paste_58 rfl (lv_at hl 2 rfl) ?_
            refine lv_if_lt (tgt := 107) hx hb dX10_paste_59 (by decide) (fun c59 => ?_) (fun c59 => ?_)
            · skip
              have f59 := i_lt c59
              have hx2_59l : iv x2 (-2147483648) (-1) := iv_ltl hx2 (iv_c (x := (0 : Int32)) (k := 0) (by decide)) c59 (by decide)
              refine lv_bipush (v := (-7)) hx hb dX10_paste_107 (by decide) ?_
              have klm7 : (-7 : Int32).toInt = (-7) := by decide
              exact ret _ _ _ _ _ dX10_paste_109 (⟨hT, iv_w (iv_c (x := (-7 : Int32)) (k := (-7)) (by decide)) (by decide), by have b0a := (hx1_4p).1; have b0b := (hx1_4p).2; have b1a := (hx2_59l).1; have b1b := (hx2_59l).2; have b2a := (hx3_11p).1; have b2b := (hx3_11p).2; have b3a := (hx4).1; have b3b := (hx4).2; have b4a := (hx5).1; have b4b := (hx5).2; have b5a := (hv1_4l).1; have b5b := (hv1_4l).2; have b6a := (hv8_11l).1; have b6b := (hv8_11l).2; have b7a := (hv22_24l).1; have b7b := (hv22_24l).2; have b8a := (hv32_34l).1; have b8b := (hv32_34l).2; have b9a := (hv45).1; have b9b := (hv45).2; have b10a := (hv51).1; have b10b := (hv51).2; omega⟩) hS
            · skip
              have f59 := i_nlt c59
              have hx2_59r : iv x2 0 2147483647 := iv_ler (iv_c (x := (0 : Int32)) (k := 0) (by decide)) hx2 (Int32.not_lt.mp c59) (by decide)
              refine lv_iload hx hb dX10_paste_62 (lv_at hl 4 rfl) ?_
              refine lv_if_lt (tgt := 107) hx hb dX10_paste_64 (by decide) (fun c64 => ?_) (fun c64 => ?_)
              · skip
                have f64 := i_lt c64
                have hx4_64l : iv x4 (-2147483648) (-1) := iv_ltl hx4 (iv_c (x := (0 : Int32)) (k := 0) (by decide)) c64 (by decide)
                refine lv_bipush (v := (-7)) hx hb dX10_paste_107 (by decide) ?_
                have klm7 : (-7 : Int32).toInt = (-7) := by decide
                exact ret _ _ _ _ _ dX10_paste_109 (⟨hT, iv_w (iv_c (x := (-7 : Int32)) (k := (-7)) (by decide)) (by decide), by have b0a := (hx1_4p).1; have b0b := (hx1_4p).2; have b1a := (hx2_59r).1; have b1b := (hx2_59r).2; have b2a := (hx3_11p).1; have b2b := (hx3_11p).2; have b3a := (hx4_64l).1; have b3b := (hx4_64l).2; have b4a := (hx5).1; have b4b := (hx5).2; have b5a := (hv1_4l).1; have b5b := (hv1_4l).2; have b6a := (hv8_11l).1; have b6b := (hv8_11l).2; have b7a := (hv22_24l).1; have b7b := (hv22_24l).2; have b8a := (hv32_34l).1; have b8b := (hv32_34l).2; have b9a := (hv45).1; have b9b := (hv45).2; have b10a := (hv51).1; have b10b := (hv51).2; omega⟩) hS
              · skip
                have f64 := i_nlt c64
                have hx4_64r : iv x4 0 2147483647 := iv_ler (iv_c (x := (0 : Int32)) (k := 0) (by decide)) hx4 (Int32.not_lt.mp c64) (by decide)
                refine lv_iload hx hb dX10_paste_67 (lv_at hl 5 rfl) ?_
                refine lv_if_lt (tgt := 107) hx hb dX10_paste_69 (by decide) (fun c69 => ?_) (fun c69 => ?_)
                · skip
                  have f69 := i_lt c69
                  have hx5_69l : iv x5 (-2147483648) (-1) := iv_ltl hx5 (iv_c (x := (0 : Int32)) (k := 0) (by decide)) c69 (by decide)
                  refine lv_bipush (v := (-7)) hx hb dX10_paste_107 (by decide) ?_
                  have klm7 : (-7 : Int32).toInt = (-7) := by decide
                  exact ret _ _ _ _ _ dX10_paste_109 (⟨hT, iv_w (iv_c (x := (-7 : Int32)) (k := (-7)) (by decide)) (by decide), by have b0a := (hx1_4p).1; have b0b := (hx1_4p).2; have b1a := (hx2_59r).1; have b1b := (hx2_59r).2; have b2a := (hx3_11p).1; have b2b := (hx3_11p).2; have b3a := (hx4_64r).1; have b3b := (hx4_64r).2; have b4a := (hx5_69l).1; have b4b := (hx5_69l).2; have b5a := (hv1_4l).1; have b5b := (hv1_4l).2; have b6a := (hv8_11l).1; have b6b := (hv8_11l).2; have b7a := (hv22_24l).1; have b7b := (hv22_24l).2; have b8a := (hv32_34l).1; have b8b := (hv32_34l).2; have b9a := (hv45).1; have b9b := (hv45).2; have b10a := (hv51).1; have b10b := (hv51).2; omega⟩) hS
                · skip
                  have f69 := i_nlt c69
                  have hx5_69r : iv x5 0 2147483647 := iv_ler (iv_c (x := (0 : Int32)) (k := 0) (by decide)) hx5 (Int32.not_lt.mp c69) (by decide)
                  refine lv_iload_n hx hb dX10_paste_72 rfl (lv_at hl 2 rfl) ?_
                  refine lv_i2l hx hb dX10_paste_73 rfl ?_
                  refine lv_topl (fun v73 e73 => ?_)
                  have hv73 : jv v73 0 2147483647 := by rw [e73]; exact jv_i hx2_59r
                  have t73 : v73.toInt = x2.toInt := by rw [e73]; exact jv_e _
                  refine lv_iload hx hb dX10_paste_74 (lv_at hl 5 rfl) ?_
                  refine lv_i2l hx hb dX10_paste_76 rfl ?_
                  refine lv_topl (fun v76 e76 => ?_)
                  have hv76 : jv v76 0 2147483647 := by rw [e76]; exact jv_i hx5_69r
                  have t76 : v76.toInt = x5.toInt := by rw [e76]; exact jv_e _
                  refine lv_ladd hx hb dX10_paste_77 ?_
                  refine lv_topl (fun v77 e77 => ?_)
                  have s77 : v77.toInt = v73.toInt + v76.toInt := by rw [e77]; exact jv_addE hv73 hv76 (by decide)
                  have hv77 : jv v77 0 4294967294 := by have b0a := (hv73).1; have b0b := (hv73).2; have b1a := (hv76).1; have b1b := (hv76).2; exact ⟨by omega, by omega⟩
                  refine lv_aload_n hx hb dX10_paste_78 rfl (lv_at hl 0 rfl) ?_
                  refine ti_getE (ci := 10) (v := .ref v18) hx hb hts inlX10 hown hK hm18 rfl (by decide) (hts _ kw_151) (fun _ h9 => h9) dX10_paste_79 ?_
                  refine lv_iload_n hx hb dX10_paste_82 rfl (lv_at hl 1 rfl) ?_
                  refine ti_ialdD hx hb (aT0 hK) hT hv18 rfl hx1_4p (by decide) (fun j => ⟨_, _, rfl⟩) dX10_paste_83 (fun v83 hz83 _ => ?_)
                  have s83 : v83.toInt = (ν (6 + x1.toNatClampNeg) : Int) - 1 := many_e hz83
                  have hv83 : iv v83 (-1) 60 := many_iv hνb s83 hx1_4p (by decide)
                  have hq83_159 : iv v83 0 60 := by have b0a := (hv22_24l).1; have b0b := (hv22_24l).2; have b1a := (hv83).1; have b1b := (hv83).2; exact ⟨by omega, by omega⟩
                  refine lv_i2l hx hb dX10_paste_84 rfl ?_
                  refine lv_topl (fun v84 e84 => ?_)
                  have hv84 : jv v84 0 60 := by rw [e84]; exact jv_i hq83_159
                  have t84 : v84.toInt = v83.toInt := by rw [e84]; exact jv_e _
                  refine W.lcmp hx hb dX10_paste_85 ?_
                  refine lv_if_gt (tgt := 107) hx hb dX10_paste_86 (by decide) (fun c86 => ?_) (fun c86 => ?_)
                  · skip
                    have f86 := jc_gt c86
                    have hv77_86a : jv v77 1 4294967294 := by have b0a := (hv77).1; have b0b := (hv77).2; have b1a := (hv84).1; have b1b := (hv84).2; exact ⟨by omega, by omega⟩
                    refine lv_bipush (v := (-7)) hx hb dX10_paste_107 (by decide) ?_
                    have klm7 : (-7 : Int32).toInt = (-7) := by decide
                    exact ret _ _ _ _ _ dX10_paste_109 (⟨hT, iv_w (iv_c (x := (-7 : Int32)) (k := (-7)) (by decide)) (by decide), by have b0a := (hx1_4p).1; have b0b := (hx1_4p).2; have b1a := (hx2_59r).1; have b1b := (hx2_59r).2; have b2a := (hx3_11p).1; have b2b := (hx3_11p).2; have b3a := (hx4_64r).1; have b3b := (hx4_64r).2; have b4a := (hx5_69r).1; have b4b := (hx5_69r).2; have b5a := (hv1_4l).1; have b5b := (hv1_4l).2; have b6a := (hv8_11l).1; have b6b := (hv8_11l).2; have b7a := (hv22_24l).1; have b7b := (hv22_24l).2; have b8a := (hv32_34l).1; have b8b := (hv32_34l).2; have b9a := (hv45).1; have b9b := (hv45).2; have b10a := (hv51).1; have b10b := (hv51).2; have b11a := (hv73).1; have b11b := (hv73).2; have b12a := (hv76).1; have b12b := (hv76).2; have b13a := (hv77_86a).1; have b13b := (hv77_86a).2; have b14a := (hq83_159).1; have b14b := (hq83_159).2; have b15a := (hv84).1; have b15b := (hv84).2; omega⟩) hS
                  · skip
                    have f86 := jc_ngt c86
                    have hv77_86a : jv v77 0 60 := by have b0a := (hv77).1; have b0b := (hv77).2; have b1a := (hv84).1; have b1b := (hv84).2; exact ⟨by omega, by omega⟩
                    have hq86_160 : iv x2 0 60 := by have b0a := (hv77_86a).1; have b0b := (hv77_86a).2; have b1a := (hx2_59r).1; have b1b := (hx2_59r).2; have b2a := (hx5_69r).1; have b2b := (hx5_69r).2; exact ⟨by omega, by omega⟩
                    have hq86_161 : iv x5 0 60 := by have b0a := (hv77_86a).1; have b0b := (hv77_86a).2; have b1a := (hq86_160).1; have b1b := (hq86_160).2; have b2a := (hx5_69r).1; have b2b := (hx5_69r).2; exact ⟨by omega, by omega⟩
                    refine lv_iload hx hb dX10_paste_89 (lv_at hl 4 rfl) ?_
                    refine lv_i2l hx hb dX10_paste_91 rfl ?_
                    refine lv_topl (fun v91 e91 => ?_)
                    have hv91 : jv v91 0 2147483647 := by rw [e91]; exact jv_i hx4_64r
                    have t91 : v91.toInt = x4.toInt := by rw [e91]; exact jv_e _
                    refine lv_iload hx hb dX10_paste_92 (lv_at hl 5 rfl) ?_
                    refine lv_i2l hx hb dX10_paste_94 rfl ?_
                    refine lv_topl (fun v94 e94 => ?_)
                    have hv94 : jv v94 0 60 := by rw [e94]; exact jv_i hq86_161
                    have t94 : v94.toInt = x5.toInt := by rw [e94]; exact jv_e _
                    refine lv_ladd hx hb dX10_paste_95 ?_
                    refine lv_topl (fun v95 e95 => ?_)
                    have s95 : v95.toInt = v91.toInt + v94.toInt := by rw [e95]; exact jv_addE hv91 hv94 (by decide)
                    have hv95 : jv v95 0 2147483707 := by have b0a := (hv91).1; have b0b := (hv91).2; have b1a := (hv94).1; have b1b := (hv94).2; exact ⟨by omega, by omega⟩
                    refine lv_aload_n hx hb dX10_paste_96 rfl (lv_at hl 0 rfl) ?_
                    refine ti_getE (ci := 10) (v := .ref v18) hx hb hts inlX10 hown hK hm18 rfl (by decide) (hts _ kw_151) (fun _ h9 => h9) dX10_paste_97 ?_
                    refine lv_iload_n hx hb dX10_paste_100 rfl (lv_at hl 3 rfl) ?_
                    refine ti_ialdD hx hb (aT0 hK) hT hv18 rfl hx3_11p (by decide) (fun j => ⟨_, _, rfl⟩) dX10_paste_101 (fun v101 hz101 _ => ?_)
                    have s101 : v101.toInt = (ν (6 + x3.toNatClampNeg) : Int) - 1 := many_e hz101
                    have hv101 : iv v101 (-1) 60 := many_iv hνb s101 hx3_11p (by decide)
                    have hq101_162 : iv v101 0 60 := by have b0a := (hv32_34l).1; have b0b := (hv32_34l).2; have b1a := (hv101).1; have b1b := (hv101).2; exact ⟨by omega, by omega⟩
                    refine lv_i2l hx hb dX10_paste_102 rfl ?_
                    refine lv_topl (fun v102 e102 => ?_)
                    have hv102 : jv v102 0 60 := by rw [e102]; exact jv_i hq101_162
                    have t102 : v102.toInt = v101.toInt := by rw [e102]; exact jv_e _
                    refine W.lcmp hx hb dX10_paste_103 ?_
                    refine lv_if_le (tgt := 110) hx hb dX10_paste_104 (by decide) (fun c104 => ?_) (fun c104 => ?_)
                    · skip
                      have f104 := jc_le c104
                      have hv95_104a : jv v95 0 60 := by have b0a := (hv95).1; have b0b := (hv95).2; have b1a := (hv102).1; have b1b := (hv102).2; exact ⟨by omega, by omega⟩
                      have hq104_163 : iv x4 0 60 := by have b0a := (hv95_104a).1; have b0b := (hv95_104a).2; have b1a := (hx4_64r).1; have b1b := (hx4_64r).2; have b2a := (hq86_161).1; have b2b := (hq86_161).2; exact ⟨by omega, by omega⟩
                      refine lv_iconst (v := 0) hx hb dX10_paste_110 (by decide) ?_
                      have J113 : ∀ (n : Nat) (j113_L6 : Int32) (H : Heap) (locs : List Loc) (ls : Array Slot), (60 - j113_L6.toInt).toNat < n → iv j113_L6 0 60 → TI D vwCl (tysOf c0) (RTg ν) Y H → va_S (pW Y [27, 39]) s.heap H locs → lv_has ls 7 [(0, .ref a0), (1, .int x1), (2, .int x2), (3, .int x3), (4, .int x4), (5, .int x5), (6, .int j113_L6)] → W p l e R s m ([.ref a0, .int x1, .int x2, .int x3, .int x4, .int x5] : List Value).toArray below meth c H locs 0 0 Q (F0 m 113 ls []) := by
                        intro n
                        induction n with
                        | zero => intro j113_L6 H locs ls hms; exact absurd hms (Nat.not_lt_zero _)
                        | succ n ih113 =>
                          intro j113_L6 H locs ls hms113 hj113_L6 hT hS hl
                          refine lv_iload hx hb dX10_paste_113 (lv_at hl 6 rfl) ?_
                          refine lv_iload hx hb dX10_paste_115 (lv_at hl 5 rfl) ?_
                          refine lv_icmp_ge (tgt := 147) hx hb dX10_paste_117 (by decide) (fun c117 => ?_) (fun c117 => ?_)
                          · skip
                            have f117 := i_le c117
                            refine lv_iconst (v := 0) hx hb dX10_paste_147 (by decide) ?_
                            have J150 : ∀ (n : Nat) (j150_L6 : Int32) (H : Heap) (locs : List Loc) (ls : Array Slot), (60 - j150_L6.toInt).toNat < n → iv j150_L6 0 60 → TI D vwCl (tysOf c0) (RTg ν) Y H → va_S (pW Y [27, 39]) s.heap H locs → lv_has ls 7 [(0, .ref a0), (1, .int x1), (2, .int x2), (3, .int x3), (4, .int x4), (5, .int x5), (6, .int j150_L6)] → W p l e R s m ([.ref a0, .int x1, .int x2, .int x3, .int x4, .int x5] : List Value).toArray below meth c H locs 0 0 Q (F0 m 150 ls []) := by
                              intro n
                              induction n with
                              | zero => intro j150_L6 H locs ls hms; exact absurd hms (Nat.not_lt_zero _)
                              | succ n ih150 =>
                                intro j150_L6 H locs ls hms150 hj150_L6 hT hS hl
                                refine lv_iload hx hb dX10_paste_150 (lv_at hl 6 rfl) ?_
                                refine lv_iload hx hb dX10_paste_152 (lv_at hl 5 rfl) ?_
                                refine lv_icmp_ge (tgt := 185) hx hb dX10_paste_154 (by decide) (fun c154 => ?_) (fun c154 => ?_)
                                · skip
                                  have f154 := i_le c154
                                  refine lv_iconst (v := 0) hx hb dX10_paste_185 (by decide) ?_
                                  exact ret _ _ _ _ _ dX10_paste_186 (⟨hT, iv_w (iv_c (x := (0 : Int32)) (k := 0) (by decide)) (by decide), by have b0a := (hx1_4p).1; have b0b := (hx1_4p).2; have b1a := (hq86_160).1; have b1b := (hq86_160).2; have b2a := (hx3_11p).1; have b2b := (hx3_11p).2; have b3a := (hq104_163).1; have b3b := (hq104_163).2; have b4a := (hq86_161).1; have b4b := (hq86_161).2; have b5a := (hv1_4l).1; have b5b := (hv1_4l).2; have b6a := (hv8_11l).1; have b6b := (hv8_11l).2; have b7a := (hv22_24l).1; have b7b := (hv22_24l).2; have b8a := (hv32_34l).1; have b8b := (hv32_34l).2; have b9a := (hv45).1; have b9b := (hv45).2; have b10a := (hv51).1; have b10b := (hv51).2; have b11a := (hv73).1; have b11b := (hv73).2; have b12a := (hv76).1; have b12b := (hv76).2; have b13a := (hv77_86a).1; have b13b := (hv77_86a).2; have b14a := (hq83_159).1; have b14b := (hq83_159).2; have b15a := (hv84).1; have b15b := (hv84).2; have b16a := (hv91).1; have b16b := (hv91).2; have b17a := (hv94).1; have b17b := (hv94).2; have b18a := (hv95_104a).1; have b18b := (hv95_104a).2; have b19a := (hq101_162).1; have b19b := (hq101_162).2; have b20a := (hv102).1; have b20b := (hv102).2; have b21a := (hj113_L6).1; have b21b := (hj113_L6).2; have b22a := (hj150_L6).1; have b22b := (hj150_L6).2; omega⟩) hS
                                · skip
                                  have f154 := i_nle c154
                                  have hj150_L6_154l : iv j150_L6 0 59 := iv_ltl hj150_L6 hq86_161 (Int32.not_le.mp c154) (by decide)
                                  have hx5_154r : iv x5 1 60 := iv_ltr hj150_L6_154l hq86_161 (Int32.not_le.mp c154) (by decide)
                                  refine lv_aload_n hx hb dX10_paste_157 rfl (lv_at hl 0 rfl) ?_
                                  refine ti_getr hx hb hts inlX10 hown hK hT ha0 rfl rfl rfl 36 (by decide) (hts _ kw_153) (fun _ h9 => h9) rfl dX10_paste_158 (fun v158 hv158 hm158 => ?_)
                                  refine lv_bipush (v := 60) hx hb dX10_paste_161 (by decide) ?_
                                  refine lv_iload_n hx hb dX10_paste_163 rfl (lv_at hl 3 rfl) ?_
                                  refine lv_imul hx hb dX10_paste_164 ?_
                                  refine lv_topi (fun v164 e164 => ?_)
                                  have hv164 : iv v164 0 180 := by rw [e164]; exact iv_mul (iv_c (x := (60 : Int32)) (k := 60) (by decide)) hx3_11p (by decide)
                                  have kl60 : (60 : Int32).toInt = 60 := by decide
                                  have s164 : v164.toInt = (60 : Int32).toInt * x3.toInt := by rw [e164]; exact iv_mulE (iv_c (x := (60 : Int32)) (k := 60) (by decide)) hx3_11p (by decide)
                                  have s164 : v164.toInt = 60 * x3.toInt := by rw [s164]; simp only [show (60 : Int32).toInt = 60 from by decide]; try omega
                                  refine lv_iload hx hb dX10_paste_165 (lv_at hl 4 rfl) ?_
                                  refine lv_iadd hx hb dX10_paste_167 ?_
                                  refine lv_topi (fun v167 e167 => ?_)
                                  have hv167 : iv v167 0 240 := by rw [e167]; exact iv_w (iv_add hv164 hq104_163 (by decide)) (by decide)
                                  have s167 : v167.toInt = v164.toInt + x4.toInt := by rw [e167]; exact iv_addE hv164 hq104_163 (by decide)
                                  refine lv_iload hx hb dX10_paste_168 (lv_at hl 6 rfl) ?_
                                  refine lv_iadd hx hb dX10_paste_170 ?_
                                  refine lv_topi (fun v170 e170 => ?_)
                                  have hv170 : iv v170 0 299 := by rw [e170]; exact iv_w (iv_add hv167 hj150_L6_154l (by decide)) (by decide)
                                  have s170 : v170.toInt = v167.toInt + j150_L6.toInt := by rw [e170]; exact iv_addE hv167 hj150_L6_154l (by decide)
                                  refine lv_aload_n hx hb dX10_paste_171 rfl (lv_at hl 0 rfl) ?_
                                  refine ti_getr hx hb hts inlX10 hown hK hT ha0 rfl rfl rfl 37 (by decide) (hts _ kw_154) (fun _ h9 => h9) rfl dX10_paste_172 (fun v172 hv172 hm172 => ?_)
                                  refine lv_iload hx hb dX10_paste_175 (lv_at hl 6 rfl) ?_
                                  refine ti_lald hx hb (aT3 hK) hT hv172 rfl hj150_L6_154l (by decide) (fun _ _ _ => rfl) dX10_paste_177 (fun v177 hm177 => ?_)
                                  have hr178_164 : iv v170 0 239 := by have b0a := (hq86_160).1; have b0b := (hq86_160).2; have b1a := (hx3_11p).1; have b1b := (hx3_11p).2; have b2a := (hq104_163).1; have b2b := (hq104_163).2; have b3a := (hx5_154r).1; have b3b := (hx5_154r).2; have b4a := (hv22_24l).1; have b4b := (hv22_24l).2; have b5a := (hv32_34l).1; have b5b := (hv32_34l).2; have b6a := (hv73).1; have b6b := (hv73).2; have b7a := (hv76).1; have b7b := (hv76).2; have b8a := (hv77_86a).1; have b8b := (hv77_86a).2; have b9a := (hq83_159).1; have b9b := (hq83_159).2; have b10a := (hv84).1; have b10b := (hv84).2; have b11a := (hv91).1; have b11b := (hv91).2; have b12a := (hv94).1; have b12b := (hv94).2; have b13a := (hv95_104a).1; have b13b := (hv95_104a).2; have b14a := (hq101_162).1; have b14b := (hq101_162).2; have b15a := (hv102).1; have b15b := (hv102).2; have b16a := (hj113_L6).1; have b16b := (hj113_L6).2; have b17a := (hj150_L6_154l).1; have b17b := (hj150_L6_154l).2; have b18a := (hv164).1; have b18b := (hv164).2; have b19a := (hv167).1; have b19b := (hv167).2; have b20a := (hv170).1; have b20b := (hv170).2; exact ⟨by omega, by omega⟩
                                  refine ti_last hx hb (aT3 hK) hT hS hv158 rfl rfl hr178_164 (by decide) (fun _ _ _ => rfl)  (fun _ _ => trivial) dX10_paste_178 (fun H locs hT hS oq178 he178 hk178 => ?_)
                                  obtain ⟨v179, e179⟩ : ∃ y : Int32, y = j150_L6 + 1 := ⟨_, rfl⟩
                                  have hv179 : iv v179 1 60 := by rw [e179]; exact iv_w (iv_add hj150_L6_154l (iv_c (x := (1 : Int32)) (k := 1) (by decide)) (by decide)) (by decide)
                                  have s179 : v179.toInt = j150_L6.toInt + 1 := by rw [e179, iv_addE hj150_L6_154l (iv_c (x := (1 : Int32)) (k := 1) (by decide)) (by decide)]; rfl
                                  refine lv_iinc (v := v179) (lv' := [(6, .int v179), (0, .ref a0), (1, .int x1), (2, .int x2), (3, .int x3), (4, .int x4), (5, .int x5)]) hx hb dX10_paste_179 hl (k := 6) rfl (by rw [e179]; rfl) (by decide) rfl (fun ls hl => ?_)
                                  refine lv_goto (tgt := 150) hx hb dX10_paste_182 (by decide) ?_
                                  exact ih150 v179 _ _ _ (ms_up hms150 (by have := s179; omega) (iv_w (c := 1) (d := 60) hv179 (by decide)).2) (iv_w hv179 (by decide)) hT hS (lv_sub hl [1, 2, 3, 4, 5, 6, 0] rfl)
                            refine lv_istore (lv' := [(6, .int (0 : Int32)), (0, .ref a0), (1, .int x1), (2, .int x2), (3, .int x3), (4, .int x4), (5, .int x5)]) hx hb dX10_paste_148 hl (by decide) rfl (fun ls hl => ?_)
                            exact J150 _ (0 : Int32) _ _ _ (Nat.lt_succ_self _) (iv_w (iv_c (x := (0 : Int32)) (k := 0) (by decide)) (by decide)) hT hS (lv_sub hl [1, 2, 3, 4, 5, 6, 0] rfl)
                          · skip
                            have f117 := i_nle c117
                            have hj113_L6_117l : iv j113_L6 0 59 := iv_ltl hj113_L6 hq86_161 (Int32.not_le.mp c117) (by decide)
                            have hx5_117r : iv x5 1 60 := iv_ltr hj113_L6_117l hq86_161 (Int32.not_le.mp c117) (by decide)
                            refine lv_aload_n hx hb dX10_paste_120 rfl (lv_at hl 0 rfl) ?_
                            refine ti_getr hx hb hts inlX10 hown hK hT ha0 rfl rfl rfl 37 (by decide) (hts _ kw_154) (fun _ h9 => h9) rfl dX10_paste_121 (fun v121 hv121 hm121 => ?_)
                            refine lv_iload hx hb dX10_paste_124 (lv_at hl 6 rfl) ?_
                            refine lv_aload_n hx hb dX10_paste_126 rfl (lv_at hl 0 rfl) ?_
                            refine ti_getr hx hb hts inlX10 hown hK hT ha0 rfl rfl rfl 36 (by decide) (hts _ kw_153) (fun _ h9 => h9) rfl dX10_paste_127 (fun v127 hv127 hm127 => ?_)
                            refine lv_bipush (v := 60) hx hb dX10_paste_130 (by decide) ?_
                            refine lv_iload_n hx hb dX10_paste_132 rfl (lv_at hl 1 rfl) ?_
                            refine lv_imul hx hb dX10_paste_133 ?_
                            refine lv_topi (fun v133 e133 => ?_)
                            have hv133 : iv v133 0 180 := by rw [e133]; exact iv_mul (iv_c (x := (60 : Int32)) (k := 60) (by decide)) hx1_4p (by decide)
                            have kl60 : (60 : Int32).toInt = 60 := by decide
                            have s133 : v133.toInt = (60 : Int32).toInt * x1.toInt := by rw [e133]; exact iv_mulE (iv_c (x := (60 : Int32)) (k := 60) (by decide)) hx1_4p (by decide)
                            have s133 : v133.toInt = 60 * x1.toInt := by rw [s133]; simp only [show (60 : Int32).toInt = 60 from by decide]; try omega
                            refine lv_iload_n hx hb dX10_paste_134 rfl (lv_at hl 2 rfl) ?_
                            refine lv_iadd hx hb dX10_paste_135 ?_
                            refine lv_topi (fun v135 e135 => ?_)
                            have hv135 : iv v135 0 240 := by rw [e135]; exact iv_w (iv_add hv133 hq86_160 (by decide)) (by decide)
                            have s135 : v135.toInt = v133.toInt + x2.toInt := by rw [e135]; exact iv_addE hv133 hq86_160 (by decide)
                            refine lv_iload hx hb dX10_paste_136 (lv_at hl 6 rfl) ?_
                            refine lv_iadd hx hb dX10_paste_138 ?_
                            refine lv_topi (fun v138 e138 => ?_)
                            have hv138 : iv v138 0 299 := by rw [e138]; exact iv_w (iv_add hv135 hj113_L6_117l (by decide)) (by decide)
                            have s138 : v138.toInt = v135.toInt + j113_L6.toInt := by rw [e138]; exact iv_addE hv135 hj113_L6_117l (by decide)
                            have hr139_165 : iv v138 0 239 := by have b0a := (hx1_4p).1; have b0b := (hx1_4p).2; have b1a := (hq86_160).1; have b1b := (hq86_160).2; have b2a := (hq104_163).1; have b2b := (hq104_163).2; have b3a := (hx5_117r).1; have b3b := (hx5_117r).2; have b4a := (hv22_24l).1; have b4b := (hv22_24l).2; have b5a := (hv32_34l).1; have b5b := (hv32_34l).2; have b6a := (hv73).1; have b6b := (hv73).2; have b7a := (hv76).1; have b7b := (hv76).2; have b8a := (hv77_86a).1; have b8b := (hv77_86a).2; have b9a := (hq83_159).1; have b9b := (hq83_159).2; have b10a := (hv84).1; have b10b := (hv84).2; have b11a := (hv91).1; have b11b := (hv91).2; have b12a := (hv94).1; have b12b := (hv94).2; have b13a := (hv95_104a).1; have b13b := (hv95_104a).2; have b14a := (hq101_162).1; have b14b := (hq101_162).2; have b15a := (hv102).1; have b15b := (hv102).2; have b16a := (hj113_L6_117l).1; have b16b := (hj113_L6_117l).2; have b17a := (hv133).1; have b17b := (hv133).2; have b18a := (hv135).1; have b18b := (hv135).2; have b19a := (hv138).1; have b19b := (hv138).2; exact ⟨by omega, by omega⟩
                            refine ti_lald hx hb (aT3 hK) hT hv127 rfl hr139_165 (by decide) (fun _ _ _ => rfl) dX10_paste_139 (fun v139 hm139 => ?_)
                            refine ti_last hx hb (aT3 hK) hT hS hv121 rfl rfl hj113_L6_117l (by decide) (fun _ _ _ => rfl)  (fun _ _ => trivial) dX10_paste_140 (fun H locs hT hS oq140 he140 hk140 => ?_)
                            obtain ⟨v141, e141⟩ : ∃ y : Int32, y = j113_L6 + 1 := ⟨_, rfl⟩
                            have hv141 : iv v141 1 60 := by rw [e141]; exact iv_w (iv_add hj113_L6_117l (iv_c (x := (1 : Int32)) (k := 1) (by decide)) (by decide)) (by decide)
                            have s141 : v141.toInt = j113_L6.toInt + 1 := by rw [e141, iv_addE hj113_L6_117l (iv_c (x := (1 : Int32)) (k := 1) (by decide)) (by decide)]; rfl
                            refine lv_iinc (v := v141) (lv' := [(6, .int v141), (0, .ref a0), (1, .int x1), (2, .int x2), (3, .int x3), (4, .int x4), (5, .int x5)]) hx hb dX10_paste_141 hl (k := 6) rfl (by rw [e141]; rfl) (by decide) rfl (fun ls hl => ?_)
                            refine lv_goto (tgt := 113) hx hb dX10_paste_144 (by decide) ?_
                            exact ih113 v141 _ _ _ (ms_up hms113 (by have := s141; omega) (iv_w (c := 1) (d := 60) hv141 (by decide)).2) (iv_w hv141 (by decide)) hT hS (lv_sub hl [1, 2, 3, 4, 5, 6, 0] rfl)
                      refine lv_istore (lv' := [(6, .int (0 : Int32)), (0, .ref a0), (1, .int x1), (2, .int x2), (3, .int x3), (4, .int x4), (5, .int x5)]) hx hb dX10_paste_111 hl (by decide) rfl (fun ls hl => ?_)
                      exact J113 _ (0 : Int32) _ _ _ (Nat.lt_succ_self _) (iv_w (iv_c (x := (0 : Int32)) (k := 0) (by decide)) (by decide)) hT hS (lv_sub hl [1, 2, 3, 4, 5, 6, 0] rfl)
                    · skip
                      have f104 := jc_nle c104
                      have hv95_104a : jv v95 1 2147483707 := by have b0a := (hv95).1; have b0b := (hv95).2; have b1a := (hv102).1; have b1b := (hv102).2; exact ⟨by omega, by omega⟩
                      refine lv_bipush (v := (-7)) hx hb dX10_paste_107 (by decide) ?_
                      have klm7 : (-7 : Int32).toInt = (-7) := by decide
                      exact ret _ _ _ _ _ dX10_paste_109 (⟨hT, iv_w (iv_c (x := (-7 : Int32)) (k := (-7)) (by decide)) (by decide), by have b0a := (hx1_4p).1; have b0b := (hx1_4p).2; have b1a := (hq86_160).1; have b1b := (hq86_160).2; have b2a := (hx3_11p).1; have b2b := (hx3_11p).2; have b3a := (hx4_64r).1; have b3b := (hx4_64r).2; have b4a := (hq86_161).1; have b4b := (hq86_161).2; have b5a := (hv1_4l).1; have b5b := (hv1_4l).2; have b6a := (hv8_11l).1; have b6b := (hv8_11l).2; have b7a := (hv22_24l).1; have b7b := (hv22_24l).2; have b8a := (hv32_34l).1; have b8b := (hv32_34l).2; have b9a := (hv45).1; have b9b := (hv45).2; have b10a := (hv51).1; have b10b := (hv51).2; have b11a := (hv73).1; have b11b := (hv73).2; have b12a := (hv76).1; have b12b := (hv76).2; have b13a := (hv77_86a).1; have b13b := (hv77_86a).2; have b14a := (hq83_159).1; have b14b := (hq83_159).2; have b15a := (hv84).1; have b15b := (hv84).2; have b16a := (hv91).1; have b16b := (hv91).2; have b17a := (hv94).1; have b17b := (hv94).2; have b18a := (hv95_104a).1; have b18b := (hv95_104a).2; have b19a := (hq101_162).1; have b19b := (hq101_162).2; have b20a := (hv102).1; have b20b := (hv102).2; omega⟩) hS
          · skip
            have f52 := i_ne c52
            refine lv_bipush (v := (-8)) hx hb dX10_paste_55 (by decide) ?_
            have klm8 : (-8 : Int32).toInt = (-8) := by decide
            exact ret _ _ _ _ _ dX10_paste_57 (⟨hT, iv_w (iv_c (x := (-8 : Int32)) (k := (-8)) (by decide)) (by decide), by have b0a := (hx1_4p).1; have b0b := (hx1_4p).2; have b1a := (hx2).1; have b1b := (hx2).2; have b2a := (hx3_11p).1; have b2b := (hx3_11p).2; have b3a := (hx4).1; have b3b := (hx4).2; have b4a := (hx5).1; have b4b := (hx5).2; have b5a := (hv1_4l).1; have b5b := (hv1_4l).2; have b6a := (hv8_11l).1; have b6b := (hv8_11l).2; have b7a := (hv22_24l).1; have b7b := (hv22_24l).2; have b8a := (hv32_34l).1; have b8b := (hv32_34l).2; have b9a := (hv45).1; have b9b := (hv45).2; have b10a := (hv51).1; have b10b := (hv51).2; omega⟩) hS
        · skip
          have f34 := i_eq c34
          have hv32_34l : iv v32 (-1) (-1) := iv_eql hv32 (iv_c (x := (-1 : Int32)) (k := (-1)) (by decide)) c34 (by decide)
          refine lv_bipush (v := (-6)) hx hb dX10_paste_37 (by decide) ?_
          have klm6 : (-6 : Int32).toInt = (-6) := by decide
          exact ret _ _ _ _ _ dX10_paste_39 (⟨hT, iv_w (iv_c (x := (-6 : Int32)) (k := (-6)) (by decide)) (by decide), by have b0a := (hx1_4p).1; have b0b := (hx1_4p).2; have b1a := (hx2).1; have b1b := (hx2).2; have b2a := (hx3_11p).1; have b2b := (hx3_11p).2; have b3a := (hx4).1; have b3b := (hx4).2; have b4a := (hx5).1; have b4b := (hx5).2; have b5a := (hv1_4l).1; have b5b := (hv1_4l).2; have b6a := (hv8_11l).1; have b6b := (hv8_11l).2; have b7a := (hv22_24l).1; have b7b := (hv22_24l).2; have b8a := (hv32_34l).1; have b8b := (hv32_34l).2; omega⟩) hS
    · skip
      have f11 := i_eq c11
      have hv8_11l : iv v8 0 0 := iv_eql hv8 (iv_c (x := (0 : Int32)) (k := 0) (by decide)) c11 (by decide)
      refine lv_bipush (v := (-2)) hx hb dX10_paste_14 (by decide) ?_
      have klm2 : (-2 : Int32).toInt = (-2) := by decide
      exact ret _ _ _ _ _ dX10_paste_16 (⟨hT, iv_w (iv_c (x := (-2 : Int32)) (k := (-2)) (by decide)) (by decide), by have b0a := (hx1_4p).1; have b0b := (hx1_4p).2; have b1a := (hx2).1; have b1b := (hx2).2; have b2a := (hx3).1; have b2b := (hx3).2; have b3a := (hx4).1; have b3b := (hx4).2; have b4a := (hx5).1; have b4b := (hx5).2; have b5a := (hv1_4l).1; have b5b := (hv1_4l).2; have b6a := (hv8_11l).1; have b6b := (hv8_11l).2; omega⟩) hS
